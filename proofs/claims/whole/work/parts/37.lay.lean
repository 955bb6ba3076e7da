/-! the reference: the element of an index; a new single -/
set_option maxHeartbeats 4000000 in
set_option maxRecDepth 100000 in
theorem L_lay11 {p : Program} {l : Launch} {e : Env} {s : State} {m : MethodId} {args : Array Value} {below : List Frame} {meth : Method} {c : Code} {D : va_G} {B : Nat} {K : Nat → ClassId} (C : Cx p s m args c cX9_lay 11 yX9_lay.cls D B K) (hr : meth.sig.returnType = none) (hlk : meth.locks = false) (r : Nat → Nat) (f0 : St) (A : Nat → Nat → Int32) (L : Nat → Nat → Int64) (I : Nat → Int32) (sg : Nat → Sg) (l9 : List Ent) (i n : Nat) (hrow : RowM A L sg l9 i n) (hi : i < 40) (hn : n ≤ 40) (hti : ∀ e ∈ l9, e.2.1 = true → cntS (sg e.1) < 9223372036854775808) (k0 : Nat) (hk0 : k0 < prodE sg l9) (hk1 : k0 < 9223372036854775808) : ∀ (m9 : Nat) (f : St), m9 ≤ l9.length → MC K r f0 f A (up1 L 11 (filG sg (l9.drop m9) m9 (k0 % prodE sg (l9.drop m9)) (L 11))) I → V p l e (RM 2 0 0) s m args below meth c D B 11 (MQ below (Qv_ D B (fun f9 => MC K r f0 f9 A (up1 L 11 (filG sg l9 0 k0 (L 11))) I)) args s 0 0 (AB B)) 0 0 f (lof [(0, .ref (r 0)), (1, .int (nI i)), (4, .ref (r 11)), (5, .long (lN (k0 / prodE sg (l9.drop m9)))), (7, .int (nI m9 + (-1)))]) 13 [] := by
  obtain ⟨w1, w2, w3, w4⟩ := hrow
  intro m
  induction m with
  | zero =>
    intro f hm hM
    refine v_iload C dX9_lay_13 rfl ?_
    refine v_if_lt (tgt := 142) C dX9_lay_15 (by decide) (fun c_15 => ?_) (fun c_15 => absurd (by decide) c_15)
    exact v_vret C hr hlk dX9_lay_142 (Nat.le_refl _) (Nat.le_refl _) (by rw [List.drop_zero, Nat.mod_eq_of_lt hk0] at hM; exact hM)
  | succ j ih =>
    intro f hm hM
    have hlt : j < l9.length := hm
    have he9 : l9[j]? = some l9[j] := List.getElem?_eq_getElem hlt
    obtain ⟨q8, q9, q10, qn, qsg, qok, qz⟩ := w4 j l9[j] he9
    generalize he : l9[j] = e9 at he9 q8 q9 q10 qn qsg qok qz
    have hdr : l9.drop j = e9 :: l9.drop (j + 1) := by rw [← he]; exact List.drop_eq_getElem_cons hlt
    have htn : e9.2.1 = true → cntS (sg e9.1) < 9223372036854775808 := fun h9 => hti e9 (List.mem_of_getElem? he9) h9
    have hpl : prodE sg l9 = prodE sg (l9.take j) * (cntS (sg e9.1) * prodE sg (l9.drop (j + 1))) := by rw [← prodE_c, ← hdr, ← prod_app, List.take_append_drop]
    have hc1 : 1 ≤ cntS (sg e9.1) := by
      rcases Nat.eq_zero_or_pos (cntS (sg e9.1)) with q | q
      · rw [q, Nat.zero_mul, Nat.mul_zero] at hpl; omega
      · exact q
    have hXb : k0 / prodE sg (l9.drop (j + 1)) < 9223372036854775808 := Nat.lt_of_le_of_lt (Nat.div_le_self _ _) hk1
    have hgn : (filG sg (l9.drop j) j (k0 % prodE sg (l9.drop j)) (L 11)) = vp_updL (filG sg (l9.drop (j + 1)) (j + 1) (k0 % prodE sg (l9.drop (j + 1))) (L 11)) j (valS (sg e9.1) (digE sg e9 (k0 / prodE sg (l9.drop (j + 1)) % cntS (sg e9.1)))) := by
      have h9 := filG_app (sg := sg) (l1 := [e9]) (l2 := l9.drop (j + 1)) (a := j) (k := k0) (g := L 11) (List.cons_ne_nil _ _)
      rw [filG_e, show prodE sg [e9] = cntS (sg e9.1) from Nat.mul_one _] at h9
      rw [hdr, prodE_c]
      exact h9
    have hleft : k0 / prodE sg (l9.drop j) = k0 / prodE sg (l9.drop (j + 1)) / cntS (sg e9.1) := by
      rw [hdr, prodE_c, Nat.div_div_eq_div_mul, Nat.mul_comm]
    generalize hX : k0 / prodE sg (l9.drop (j + 1)) = X at *
    have hdl : digE sg e9 (X % cntS (sg e9.1)) < cntS (sg e9.1) := dig_lt (Nat.mod_lt _ (by omega))
    refine v_loc [(0, .ref (r 0)), (1, .int (nI i)), (4, .ref (r 11)), (5, .long (lN X)), (7, .int (nI j))] (lsub_c rfl (lsub_c rfl (lsub_c rfl (lsub_c rfl (lsub_c (congrArg (fun x => some (Value.int x)) (pk_m1 j)) lsub_n))))) ?_
    cases hb9 : e9.2.1 with
    | true =>
      rw [hb9] at q9
      have htc := htn hb9
      have hcs := htc
      refine v_iload C dX9_lay_13 rfl ?_
      refine v_if_lt (tgt := 142) C dX9_lay_15 (by decide) (fun c_15 => absurd c_15 (nI_pos (by omega))) (fun c_15 => ?_)
      refine v_aload_n C dX9_lay_18 rfl rfl ?_
      refine v_get C dX9_lay_19 8 hM.1 rfl in_X9 (by decide) g_fl_X9_32 (fun _ h9 => h9) rfl ?_
      refine v_bipush (v := 8) C dX9_lay_22 (by decide) ?_
      refine v_iload_n C dX9_lay_24 rfl rfl ?_
      refine v_imul C dX9_lay_25 ?_
      refine v_iload C dX9_lay_26 rfl ?_
      refine v_iadd C dX9_lay_28 ?_
      refine m_ild C hM dX9_lay_29 8 ((8 * i) + j) (by decide) (show _ < 320 by omega) (by simp only [← nI_add, ← pk_mul]; rfl) ?_
      refine v_ri q8 ?_
      refine v_istore C dX9_lay_30 (by decide) rfl ?_
      refine v_aload_n C dX9_lay_32 rfl rfl ?_
      refine v_get C dX9_lay_33 4 hM.1 rfl in_X9 (by decide) g_fl_X9_19 (fun _ h9 => h9) rfl ?_
      refine v_iload C dX9_lay_36 rfl ?_
      refine m_lld C hM dX9_lay_38 4 (e9.1) (by decide) (show _ < 40 by omega) rfl ?_
      refine v_rl (qz.trans (sat_lt hcs)) ?_
      refine v_ldc2 C dX9_lay_39 g_kl_X9_68 ?_
      refine v_lc_ne (tgt := 51) C dX9_lay_42 dX9_lay_43 (by decide) (fun c_42 => ?_) (fun c_42 => absurd c_42 (fun h9 => by have h8 := congrArg Int64.toInt h9; rw [pk_lT (by omega)] at h8; have z : (-1 : Int64).toInt = -1 := rfl; omega))
      refine v_lload C dX9_lay_51 rfl ?_
      refine v_aload_n C dX9_lay_53 rfl rfl ?_
      refine v_get C dX9_lay_54 4 hM.1 rfl in_X9 (by decide) g_fl_X9_19 (fun _ h9 => h9) rfl ?_
      refine v_iload C dX9_lay_57 rfl ?_
      refine m_lld C hM dX9_lay_59 4 (e9.1) (by decide) (show _ < 40 by omega) rfl ?_
      refine v_rl (qz.trans (sat_lt hcs)) ?_
      refine v_lrem C dX9_lay_60 (fun h9 => by have h8 := (pk_lEQ (b := 0) (by omega) (by omega)).mp h9; omega) ?_
      refine v_rl (pk_lRem (by omega) (by omega) (by omega)) ?_
      refine v_lstore C dX9_lay_61 (by decide) rfl ?_
      refine v_aload_n C dX9_lay_63 rfl rfl ?_
      refine v_get C dX9_lay_64 4 hM.1 rfl in_X9 (by decide) g_fl_X9_19 (fun _ h9 => h9) rfl ?_
      refine v_iload C dX9_lay_67 rfl ?_
      refine m_lld C hM dX9_lay_69 4 (e9.1) (by decide) (show _ < 40 by omega) rfl ?_
      refine v_rl (qz.trans (sat_lt hcs)) ?_
      refine v_ldc2 C dX9_lay_70 g_kl_X9_68 ?_
      refine v_lc_ne (tgt := 81) C dX9_lay_73 dX9_lay_74 (by decide) (fun c_73 => ?_) (fun c_73 => absurd c_73 (fun h9 => by have h8 := congrArg Int64.toInt h9; rw [pk_lT (by omega)] at h8; have z : (-1 : Int64).toInt = -1 := rfl; omega))
      refine v_lload C dX9_lay_81 rfl ?_
      refine v_aload_n C dX9_lay_83 rfl rfl ?_
      refine v_get C dX9_lay_84 4 hM.1 rfl in_X9 (by decide) g_fl_X9_19 (fun _ h9 => h9) rfl ?_
      refine v_iload C dX9_lay_87 rfl ?_
      refine m_lld C hM dX9_lay_89 4 (e9.1) (by decide) (show _ < 40 by omega) rfl ?_
      refine v_rl (qz.trans (sat_lt hcs)) ?_
      refine v_ldiv C dX9_lay_90 (fun h9 => by have h8 := (pk_lEQ (b := 0) (by omega) (by omega)).mp h9; omega) ?_
      refine v_rl (pk_lDiv (by omega) (by omega) (by omega)) ?_
      refine v_lstore C dX9_lay_91 (by decide) rfl ?_
      refine v_aload C dX9_lay_93 rfl ?_
      refine v_iload C dX9_lay_95 rfl ?_
      refine v_aload_n C dX9_lay_97 rfl rfl ?_
      refine v_iload C dX9_lay_98 rfl ?_
      refine v_aload_n C dX9_lay_100 rfl rfl ?_
      refine v_get C dX9_lay_101 9 hM.1 rfl in_X9 (by decide) g_fl_X9_35 (fun _ h9 => h9) rfl ?_
      refine v_bipush (v := 8) C dX9_lay_104 (by decide) ?_
      refine v_iload_n C dX9_lay_106 rfl rfl ?_
      refine v_imul C dX9_lay_107 ?_
      refine v_iload C dX9_lay_108 rfl ?_
      refine v_iadd C dX9_lay_110 ?_
      refine m_zld C hM dX9_lay_111 ((8 * i) + j) (show _ < 320 by omega) (by simp only [← nI_add, ← pk_mul]; rfl) ?_
      refine v_ri q9 ?_
      refine v_if_eq (tgt := 130) C dX9_lay_112 (by decide) (fun c_112 => absurd c_112 (by decide)) (fun c_112 => ?_)
      refine v_aload_n C dX9_lay_115 rfl rfl ?_
      refine v_get C dX9_lay_116 4 hM.1 rfl in_X9 (by decide) g_fl_X9_19 (fun _ h9 => h9) rfl ?_
      refine v_iload C dX9_lay_119 rfl ?_
      refine m_lld C hM dX9_lay_121 4 (e9.1) (by decide) (show _ < 40 by omega) rfl ?_
      refine v_rl (qz.trans (sat_lt htc)) ?_
      refine v_lconst (v := 1) C dX9_lay_122 (by decide) ?_
      refine v_lsub C dX9_lay_123 ?_
      refine v_lload C dX9_lay_124 rfl ?_
      refine v_lsub C dX9_lay_126 ?_
      refine v_rl (show lN (cntS (sg e9.1)) - 1 - lN (X % cntS (sg e9.1)) = lN (digE sg e9 (X % cntS (sg e9.1))) by rw [show lN (cntS (sg e9.1)) - 1 = lN (cntS (sg e9.1) - 1) from lN_sub (b := 1) (by omega), lN_sub (by have h9 := Nat.mod_lt X (show 0 < cntS (sg e9.1) by omega); omega)]; unfold digE; rw [hb9]; rfl) ?_
      refine v_goto (tgt := 132) C dX9_lay_127 (by decide) ?_
      refine v_cl (r_V C (m_numberAt l D B K _ r f0 A (up1 L 11 (filG sg (l9.drop (j + 1)) (j + 1) (k0 % prodE sg (l9.drop (j + 1))) (L 11))) I e9.1 (digE sg e9 (X % cntS (sg e9.1))) hM (by omega) (by show okS (sgM A L e9.1); rw [qsg]; exact qok) (by show _ < cntS (sgM A L e9.1); rw [qsg]; exact hdl)) dX9_lay_132 hM.1 rfl g_ml_X9_144 g_im_yX9_numberAt g_se_X9_yX9_numberAt_yX9_numberAt g_in_X9 g_cd_yX9_numberAt (rn_le (by decide)) (by decide) rfl rfl hdn_yX9_numberAt (Nat.le_of_ble_eq_true rfl) ⟨Nat.le_of_ble_eq_true rfl, Nat.le_of_ble_eq_true rfl⟩) (fun r_132 f_132 hp_132 => ?_)
      obtain ⟨rfl, hf9⟩ := hp_132
      have hf9 := hf9.symm
      subst hf9
      refine v_rl (show valS (sgM A L e9.1) _ = valS (sg e9.1) (digE sg e9 (X % cntS (sg e9.1))) by rw [qsg]) ?_
      refine m_lst C hM dX9_lay_135 11 j (by decide) (show _ < 8 by omega) rfl (fun f hM => ?_)
      refine v_iinc (y := (-1)) C dX9_lay_136 rfl (by decide) (by decide) rfl ?_
      refine v_goto (tgt := 13) C dX9_lay_139 (by decide) ?_
      refine v_loc [(0, .ref (r 0)), (1, .int (nI i)), (4, .ref (r 11)), (5, .long (lN (X / cntS (sg e9.1)))), (7, .int (nI j + (-1)))] (lsub_c rfl (lsub_c rfl (lsub_c rfl (lsub_c rfl (lsub_c rfl lsub_n))))) ?_
      rw [up1_self, up1_up1, ← hgn] at hM
      rw [hleft] at ih
      exact ih f (by omega) hM
    | false =>
      rw [hb9] at q9
      by_cases hcs : cntS (sg e9.1) < 9223372036854775808
      · refine v_iload C dX9_lay_13 rfl ?_
        refine v_if_lt (tgt := 142) C dX9_lay_15 (by decide) (fun c_15 => absurd c_15 (nI_pos (by omega))) (fun c_15 => ?_)
        refine v_aload_n C dX9_lay_18 rfl rfl ?_
        refine v_get C dX9_lay_19 8 hM.1 rfl in_X9 (by decide) g_fl_X9_32 (fun _ h9 => h9) rfl ?_
        refine v_bipush (v := 8) C dX9_lay_22 (by decide) ?_
        refine v_iload_n C dX9_lay_24 rfl rfl ?_
        refine v_imul C dX9_lay_25 ?_
        refine v_iload C dX9_lay_26 rfl ?_
        refine v_iadd C dX9_lay_28 ?_
        refine m_ild C hM dX9_lay_29 8 ((8 * i) + j) (by decide) (show _ < 320 by omega) (by simp only [← nI_add, ← pk_mul]; rfl) ?_
        refine v_ri q8 ?_
        refine v_istore C dX9_lay_30 (by decide) rfl ?_
        refine v_aload_n C dX9_lay_32 rfl rfl ?_
        refine v_get C dX9_lay_33 4 hM.1 rfl in_X9 (by decide) g_fl_X9_19 (fun _ h9 => h9) rfl ?_
        refine v_iload C dX9_lay_36 rfl ?_
        refine m_lld C hM dX9_lay_38 4 (e9.1) (by decide) (show _ < 40 by omega) rfl ?_
        refine v_rl (qz.trans (sat_lt hcs)) ?_
        refine v_ldc2 C dX9_lay_39 g_kl_X9_68 ?_
        refine v_lc_ne (tgt := 51) C dX9_lay_42 dX9_lay_43 (by decide) (fun c_42 => ?_) (fun c_42 => absurd c_42 (fun h9 => by have h8 := congrArg Int64.toInt h9; rw [pk_lT (by omega)] at h8; have z : (-1 : Int64).toInt = -1 := rfl; omega))
        refine v_lload C dX9_lay_51 rfl ?_
        refine v_aload_n C dX9_lay_53 rfl rfl ?_
        refine v_get C dX9_lay_54 4 hM.1 rfl in_X9 (by decide) g_fl_X9_19 (fun _ h9 => h9) rfl ?_
        refine v_iload C dX9_lay_57 rfl ?_
        refine m_lld C hM dX9_lay_59 4 (e9.1) (by decide) (show _ < 40 by omega) rfl ?_
        refine v_rl (qz.trans (sat_lt hcs)) ?_
        refine v_lrem C dX9_lay_60 (fun h9 => by have h8 := (pk_lEQ (b := 0) (by omega) (by omega)).mp h9; omega) ?_
        refine v_rl (pk_lRem (by omega) (by omega) (by omega)) ?_
        refine v_lstore C dX9_lay_61 (by decide) rfl ?_
        refine v_aload_n C dX9_lay_63 rfl rfl ?_
        refine v_get C dX9_lay_64 4 hM.1 rfl in_X9 (by decide) g_fl_X9_19 (fun _ h9 => h9) rfl ?_
        refine v_iload C dX9_lay_67 rfl ?_
        refine m_lld C hM dX9_lay_69 4 (e9.1) (by decide) (show _ < 40 by omega) rfl ?_
        refine v_rl (qz.trans (sat_lt hcs)) ?_
        refine v_ldc2 C dX9_lay_70 g_kl_X9_68 ?_
        refine v_lc_ne (tgt := 81) C dX9_lay_73 dX9_lay_74 (by decide) (fun c_73 => ?_) (fun c_73 => absurd c_73 (fun h9 => by have h8 := congrArg Int64.toInt h9; rw [pk_lT (by omega)] at h8; have z : (-1 : Int64).toInt = -1 := rfl; omega))
        refine v_lload C dX9_lay_81 rfl ?_
        refine v_aload_n C dX9_lay_83 rfl rfl ?_
        refine v_get C dX9_lay_84 4 hM.1 rfl in_X9 (by decide) g_fl_X9_19 (fun _ h9 => h9) rfl ?_
        refine v_iload C dX9_lay_87 rfl ?_
        refine m_lld C hM dX9_lay_89 4 (e9.1) (by decide) (show _ < 40 by omega) rfl ?_
        refine v_rl (qz.trans (sat_lt hcs)) ?_
        refine v_ldiv C dX9_lay_90 (fun h9 => by have h8 := (pk_lEQ (b := 0) (by omega) (by omega)).mp h9; omega) ?_
        refine v_rl (pk_lDiv (by omega) (by omega) (by omega)) ?_
        refine v_lstore C dX9_lay_91 (by decide) rfl ?_
        refine v_aload C dX9_lay_93 rfl ?_
        refine v_iload C dX9_lay_95 rfl ?_
        refine v_aload_n C dX9_lay_97 rfl rfl ?_
        refine v_iload C dX9_lay_98 rfl ?_
        refine v_aload_n C dX9_lay_100 rfl rfl ?_
        refine v_get C dX9_lay_101 9 hM.1 rfl in_X9 (by decide) g_fl_X9_35 (fun _ h9 => h9) rfl ?_
        refine v_bipush (v := 8) C dX9_lay_104 (by decide) ?_
        refine v_iload_n C dX9_lay_106 rfl rfl ?_
        refine v_imul C dX9_lay_107 ?_
        refine v_iload C dX9_lay_108 rfl ?_
        refine v_iadd C dX9_lay_110 ?_
        refine m_zld C hM dX9_lay_111 ((8 * i) + j) (show _ < 320 by omega) (by simp only [← nI_add, ← pk_mul]; rfl) ?_
        refine v_ri q9 ?_
        refine v_if_eq (tgt := 130) C dX9_lay_112 (by decide) (fun c_112 => ?_) (fun c_112 => absurd rfl c_112)
        refine v_lload C dX9_lay_130 rfl ?_
        refine v_rl (show lN (X % cntS (sg e9.1)) = lN (digE sg e9 (X % cntS (sg e9.1))) by unfold digE; rw [hb9]; rfl) ?_
        refine v_cl (r_V C (m_numberAt l D B K _ r f0 A (up1 L 11 (filG sg (l9.drop (j + 1)) (j + 1) (k0 % prodE sg (l9.drop (j + 1))) (L 11))) I e9.1 (digE sg e9 (X % cntS (sg e9.1))) hM (by omega) (by show okS (sgM A L e9.1); rw [qsg]; exact qok) (by show _ < cntS (sgM A L e9.1); rw [qsg]; exact hdl)) dX9_lay_132 hM.1 rfl g_ml_X9_144 g_im_yX9_numberAt g_se_X9_yX9_numberAt_yX9_numberAt g_in_X9 g_cd_yX9_numberAt (rn_le (by decide)) (by decide) rfl rfl hdn_yX9_numberAt (Nat.le_of_ble_eq_true rfl) ⟨Nat.le_of_ble_eq_true rfl, Nat.le_of_ble_eq_true rfl⟩) (fun r_132 f_132 hp_132 => ?_)
        obtain ⟨rfl, hf9⟩ := hp_132
        have hf9 := hf9.symm
        subst hf9
        refine v_rl (show valS (sgM A L e9.1) _ = valS (sg e9.1) (digE sg e9 (X % cntS (sg e9.1))) by rw [qsg]) ?_
        refine m_lst C hM dX9_lay_135 11 j (by decide) (show _ < 8 by omega) rfl (fun f hM => ?_)
        refine v_iinc (y := (-1)) C dX9_lay_136 rfl (by decide) (by decide) rfl ?_
        refine v_goto (tgt := 13) C dX9_lay_139 (by decide) ?_
        refine v_loc [(0, .ref (r 0)), (1, .int (nI i)), (4, .ref (r 11)), (5, .long (lN (X / cntS (sg e9.1)))), (7, .int (nI j + (-1)))] (lsub_c rfl (lsub_c rfl (lsub_c rfl (lsub_c rfl (lsub_c rfl lsub_n))))) ?_
        rw [up1_self, up1_up1, ← hgn] at hM
        rw [hleft] at ih
        exact ih f (by omega) hM
      · refine v_iload C dX9_lay_13 rfl ?_
        refine v_if_lt (tgt := 142) C dX9_lay_15 (by decide) (fun c_15 => absurd c_15 (nI_pos (by omega))) (fun c_15 => ?_)
        refine v_aload_n C dX9_lay_18 rfl rfl ?_
        refine v_get C dX9_lay_19 8 hM.1 rfl in_X9 (by decide) g_fl_X9_32 (fun _ h9 => h9) rfl ?_
        refine v_bipush (v := 8) C dX9_lay_22 (by decide) ?_
        refine v_iload_n C dX9_lay_24 rfl rfl ?_
        refine v_imul C dX9_lay_25 ?_
        refine v_iload C dX9_lay_26 rfl ?_
        refine v_iadd C dX9_lay_28 ?_
        refine m_ild C hM dX9_lay_29 8 ((8 * i) + j) (by decide) (show _ < 320 by omega) (by simp only [← nI_add, ← pk_mul]; rfl) ?_
        refine v_ri q8 ?_
        refine v_istore C dX9_lay_30 (by decide) rfl ?_
        refine v_aload_n C dX9_lay_32 rfl rfl ?_
        refine v_get C dX9_lay_33 4 hM.1 rfl in_X9 (by decide) g_fl_X9_19 (fun _ h9 => h9) rfl ?_
        refine v_iload C dX9_lay_36 rfl ?_
        refine m_lld C hM dX9_lay_38 4 (e9.1) (by decide) (show _ < 40 by omega) rfl ?_
        refine v_rl (qz.trans (sat_ge (by omega))) ?_
        refine v_ldc2 C dX9_lay_39 g_kl_X9_68 ?_
        refine v_lc_ne (tgt := 51) C dX9_lay_42 dX9_lay_43 (by decide) (fun c_42 => absurd rfl c_42) (fun c_42 => ?_)
        refine v_lload C dX9_lay_46 rfl ?_
        refine v_rl (show lN X = lN (X % cntS (sg e9.1)) by rw [Nat.mod_eq_of_lt (by omega)]) ?_
        refine v_goto (tgt := 61) C dX9_lay_48 (by decide) ?_
        refine v_lstore C dX9_lay_61 (by decide) rfl ?_
        refine v_aload_n C dX9_lay_63 rfl rfl ?_
        refine v_get C dX9_lay_64 4 hM.1 rfl in_X9 (by decide) g_fl_X9_19 (fun _ h9 => h9) rfl ?_
        refine v_iload C dX9_lay_67 rfl ?_
        refine m_lld C hM dX9_lay_69 4 (e9.1) (by decide) (show _ < 40 by omega) rfl ?_
        refine v_rl (qz.trans (sat_ge (by omega))) ?_
        refine v_ldc2 C dX9_lay_70 g_kl_X9_68 ?_
        refine v_lc_ne (tgt := 81) C dX9_lay_73 dX9_lay_74 (by decide) (fun c_73 => absurd rfl c_73) (fun c_73 => ?_)
        refine v_lconst (v := 0) C dX9_lay_77 (by decide) ?_
        refine v_rl (show (0 : Int64) = lN (X / cntS (sg e9.1)) by rw [Nat.div_eq_of_lt (by omega)]; rfl) ?_
        refine v_goto (tgt := 91) C dX9_lay_78 (by decide) ?_
        refine v_lstore C dX9_lay_91 (by decide) rfl ?_
        refine v_aload C dX9_lay_93 rfl ?_
        refine v_iload C dX9_lay_95 rfl ?_
        refine v_aload_n C dX9_lay_97 rfl rfl ?_
        refine v_iload C dX9_lay_98 rfl ?_
        refine v_aload_n C dX9_lay_100 rfl rfl ?_
        refine v_get C dX9_lay_101 9 hM.1 rfl in_X9 (by decide) g_fl_X9_35 (fun _ h9 => h9) rfl ?_
        refine v_bipush (v := 8) C dX9_lay_104 (by decide) ?_
        refine v_iload_n C dX9_lay_106 rfl rfl ?_
        refine v_imul C dX9_lay_107 ?_
        refine v_iload C dX9_lay_108 rfl ?_
        refine v_iadd C dX9_lay_110 ?_
        refine m_zld C hM dX9_lay_111 ((8 * i) + j) (show _ < 320 by omega) (by simp only [← nI_add, ← pk_mul]; rfl) ?_
        refine v_ri q9 ?_
        refine v_if_eq (tgt := 130) C dX9_lay_112 (by decide) (fun c_112 => ?_) (fun c_112 => absurd rfl c_112)
        refine v_lload C dX9_lay_130 rfl ?_
        refine v_rl (show lN (X % cntS (sg e9.1)) = lN (digE sg e9 (X % cntS (sg e9.1))) by unfold digE; rw [hb9]; rfl) ?_
        refine v_cl (r_V C (m_numberAt l D B K _ r f0 A (up1 L 11 (filG sg (l9.drop (j + 1)) (j + 1) (k0 % prodE sg (l9.drop (j + 1))) (L 11))) I e9.1 (digE sg e9 (X % cntS (sg e9.1))) hM (by omega) (by show okS (sgM A L e9.1); rw [qsg]; exact qok) (by show _ < cntS (sgM A L e9.1); rw [qsg]; exact hdl)) dX9_lay_132 hM.1 rfl g_ml_X9_144 g_im_yX9_numberAt g_se_X9_yX9_numberAt_yX9_numberAt g_in_X9 g_cd_yX9_numberAt (rn_le (by decide)) (by decide) rfl rfl hdn_yX9_numberAt (Nat.le_of_ble_eq_true rfl) ⟨Nat.le_of_ble_eq_true rfl, Nat.le_of_ble_eq_true rfl⟩) (fun r_132 f_132 hp_132 => ?_)
        obtain ⟨rfl, hf9⟩ := hp_132
        have hf9 := hf9.symm
        subst hf9
        refine v_rl (show valS (sgM A L e9.1) _ = valS (sg e9.1) (digE sg e9 (X % cntS (sg e9.1))) by rw [qsg]) ?_
        refine m_lst C hM dX9_lay_135 11 j (by decide) (show _ < 8 by omega) rfl (fun f hM => ?_)
        refine v_iinc (y := (-1)) C dX9_lay_136 rfl (by decide) (by decide) rfl ?_
        refine v_goto (tgt := 13) C dX9_lay_139 (by decide) ?_
        refine v_loc [(0, .ref (r 0)), (1, .int (nI i)), (4, .ref (r 11)), (5, .long (lN (X / cntS (sg e9.1)))), (7, .int (nI j + (-1)))] (lsub_c rfl (lsub_c rfl (lsub_c rfl (lsub_c rfl (lsub_c rfl lsub_n))))) ?_
        rw [up1_self, up1_up1, ← hgn] at hM
        rw [hleft] at ih
        exact ih f (by omega) hM

set_option maxHeartbeats 4000000 in
set_option maxRecDepth 100000 in
theorem m_lay11 (l : Launch) (D : va_G) (B : Nat) (K : Nat → ClassId) (f : St) (r : Nat → Nat) (f0 : St) (A : Nat → Nat → Int32) (L : Nat → Nat → Int64) (I : Nat → Int32) (sg : Nat → Sg) (l9 : List Ent) (i n : Nat) (hM : MC K r f0 f A L I) (hrow : RowM A L sg l9 i n) (hi : i < 40) (hn : n ≤ 40) (hti : ∀ e ∈ l9, e.2.1 = true → cntS (sg e.1) < 9223372036854775808) (k0 : Nat) (hk0 : k0 < prodE sg l9) (hk1 : k0 < 9223372036854775808) : Kc l D B K yX9_lay cX9_lay 11 (none) 2 0 0 [.ref (r 0), .int (nI i), .long (lN k0), .ref (r 11)] f (Qv_ D B (fun f9 => MC K r f0 f9 A (up1 L 11 (filG sg l9 0 k0 (L 11))) I)) := by
  refine v_met [(0, .ref (r 0)), (1, .int (nI i)), (2, .long (lN k0)), (4, .ref (r 11))] (by decide) (Nat.le_of_ble_eq_true rfl) rfl ?_
  intro p e s m args below meth c C hr hlk hin
  refine v_lload_n C dX9_lay_0 rfl rfl ?_
  refine v_lstore C dX9_lay_1 (by decide) rfl ?_
  refine v_aload_n C dX9_lay_3 rfl rfl ?_
  refine v_get C dX9_lay_4 3 hM.1 rfl in_X9 (by decide) g_fl_X9_16 (fun _ h9 => h9) rfl ?_
  refine v_iload_n C dX9_lay_7 rfl rfl ?_
  refine m_ild C hM dX9_lay_8 3 i (by decide) (show _ < 40 by omega) rfl ?_
  refine v_ri hrow.1 ?_
  refine v_iconst (v := 1) C dX9_lay_9 (by decide) ?_
  refine v_isub C dX9_lay_10 ?_
  refine v_ri (Int32.sub_eq_add_neg _ _) ?_
  refine v_istore C dX9_lay_11 (by decide) rfl ?_
  refine v_loc [(0, .ref (r 0)), (1, .int (nI i)), (4, .ref (r 11)), (5, .long (lN (k0 / prodE sg (l9.drop l9.length)))), (7, .int (nI l9.length + (-1)))] (lsub_c rfl (lsub_c rfl (lsub_c rfl (lsub_c (by rw [List.drop_length]; show _ = some (Value.long (lN (k0 / 1))); rw [Nat.div_one]; rfl) (lsub_c rfl lsub_n))))) ?_
  exact L_lay11 C hr hlk r f0 A L I sg l9 i n hrow hi hn hti k0 hk0 hk1 l9.length f (Nat.le_refl _) (by rw [List.drop_length, filG_nil, up1_id]; exact hM)

set_option maxHeartbeats 4000000 in
set_option maxRecDepth 100000 in
theorem L_lay12 {p : Program} {l : Launch} {e : Env} {s : State} {m : MethodId} {args : Array Value} {below : List Frame} {meth : Method} {c : Code} {D : va_G} {B : Nat} {K : Nat → ClassId} (C : Cx p s m args c cX9_lay 11 yX9_lay.cls D B K) (hr : meth.sig.returnType = none) (hlk : meth.locks = false) (r : Nat → Nat) (f0 : St) (A : Nat → Nat → Int32) (L : Nat → Nat → Int64) (I : Nat → Int32) (sg : Nat → Sg) (l9 : List Ent) (i n : Nat) (hrow : RowM A L sg l9 i n) (hi : i < 40) (hn : n ≤ 40) (hti : ∀ e ∈ l9, e.2.1 = true → cntS (sg e.1) < 9223372036854775808) (k0 : Nat) (hk0 : k0 < prodE sg l9) (hk1 : k0 < 9223372036854775808) : ∀ (m9 : Nat) (f : St), m9 ≤ l9.length → MC K r f0 f A (up1 L 12 (filG sg (l9.drop m9) m9 (k0 % prodE sg (l9.drop m9)) (L 12))) I → V p l e (RM 2 0 0) s m args below meth c D B 11 (MQ below (Qv_ D B (fun f9 => MC K r f0 f9 A (up1 L 12 (filG sg l9 0 k0 (L 12))) I)) args s 0 0 (AB B)) 0 0 f (lof [(0, .ref (r 0)), (1, .int (nI i)), (4, .ref (r 12)), (5, .long (lN (k0 / prodE sg (l9.drop m9)))), (7, .int (nI m9 + (-1)))]) 13 [] := by
  obtain ⟨w1, w2, w3, w4⟩ := hrow
  intro m
  induction m with
  | zero =>
    intro f hm hM
    refine v_iload C dX9_lay_13 rfl ?_
    refine v_if_lt (tgt := 142) C dX9_lay_15 (by decide) (fun c_15 => ?_) (fun c_15 => absurd (by decide) c_15)
    exact v_vret C hr hlk dX9_lay_142 (Nat.le_refl _) (Nat.le_refl _) (by rw [List.drop_zero, Nat.mod_eq_of_lt hk0] at hM; exact hM)
  | succ j ih =>
    intro f hm hM
    have hlt : j < l9.length := hm
    have he9 : l9[j]? = some l9[j] := List.getElem?_eq_getElem hlt
    obtain ⟨q8, q9, q10, qn, qsg, qok, qz⟩ := w4 j l9[j] he9
    generalize he : l9[j] = e9 at he9 q8 q9 q10 qn qsg qok qz
    have hdr : l9.drop j = e9 :: l9.drop (j + 1) := by rw [← he]; exact List.drop_eq_getElem_cons hlt
    have htn : e9.2.1 = true → cntS (sg e9.1) < 9223372036854775808 := fun h9 => hti e9 (List.mem_of_getElem? he9) h9
    have hpl : prodE sg l9 = prodE sg (l9.take j) * (cntS (sg e9.1) * prodE sg (l9.drop (j + 1))) := by rw [← prodE_c, ← hdr, ← prod_app, List.take_append_drop]
    have hc1 : 1 ≤ cntS (sg e9.1) := by
      rcases Nat.eq_zero_or_pos (cntS (sg e9.1)) with q | q
      · rw [q, Nat.zero_mul, Nat.mul_zero] at hpl; omega
      · exact q
    have hXb : k0 / prodE sg (l9.drop (j + 1)) < 9223372036854775808 := Nat.lt_of_le_of_lt (Nat.div_le_self _ _) hk1
    have hgn : (filG sg (l9.drop j) j (k0 % prodE sg (l9.drop j)) (L 12)) = vp_updL (filG sg (l9.drop (j + 1)) (j + 1) (k0 % prodE sg (l9.drop (j + 1))) (L 12)) j (valS (sg e9.1) (digE sg e9 (k0 / prodE sg (l9.drop (j + 1)) % cntS (sg e9.1)))) := by
      have h9 := filG_app (sg := sg) (l1 := [e9]) (l2 := l9.drop (j + 1)) (a := j) (k := k0) (g := L 12) (List.cons_ne_nil _ _)
      rw [filG_e, show prodE sg [e9] = cntS (sg e9.1) from Nat.mul_one _] at h9
      rw [hdr, prodE_c]
      exact h9
    have hleft : k0 / prodE sg (l9.drop j) = k0 / prodE sg (l9.drop (j + 1)) / cntS (sg e9.1) := by
      rw [hdr, prodE_c, Nat.div_div_eq_div_mul, Nat.mul_comm]
    generalize hX : k0 / prodE sg (l9.drop (j + 1)) = X at *
    have hdl : digE sg e9 (X % cntS (sg e9.1)) < cntS (sg e9.1) := dig_lt (Nat.mod_lt _ (by omega))
    refine v_loc [(0, .ref (r 0)), (1, .int (nI i)), (4, .ref (r 12)), (5, .long (lN X)), (7, .int (nI j))] (lsub_c rfl (lsub_c rfl (lsub_c rfl (lsub_c rfl (lsub_c (congrArg (fun x => some (Value.int x)) (pk_m1 j)) lsub_n))))) ?_
    cases hb9 : e9.2.1 with
    | true =>
      rw [hb9] at q9
      have htc := htn hb9
      have hcs := htc
      refine v_iload C dX9_lay_13 rfl ?_
      refine v_if_lt (tgt := 142) C dX9_lay_15 (by decide) (fun c_15 => absurd c_15 (nI_pos (by omega))) (fun c_15 => ?_)
      refine v_aload_n C dX9_lay_18 rfl rfl ?_
      refine v_get C dX9_lay_19 8 hM.1 rfl in_X9 (by decide) g_fl_X9_32 (fun _ h9 => h9) rfl ?_
      refine v_bipush (v := 8) C dX9_lay_22 (by decide) ?_
      refine v_iload_n C dX9_lay_24 rfl rfl ?_
      refine v_imul C dX9_lay_25 ?_
      refine v_iload C dX9_lay_26 rfl ?_
      refine v_iadd C dX9_lay_28 ?_
      refine m_ild C hM dX9_lay_29 8 ((8 * i) + j) (by decide) (show _ < 320 by omega) (by simp only [← nI_add, ← pk_mul]; rfl) ?_
      refine v_ri q8 ?_
      refine v_istore C dX9_lay_30 (by decide) rfl ?_
      refine v_aload_n C dX9_lay_32 rfl rfl ?_
      refine v_get C dX9_lay_33 4 hM.1 rfl in_X9 (by decide) g_fl_X9_19 (fun _ h9 => h9) rfl ?_
      refine v_iload C dX9_lay_36 rfl ?_
      refine m_lld C hM dX9_lay_38 4 (e9.1) (by decide) (show _ < 40 by omega) rfl ?_
      refine v_rl (qz.trans (sat_lt hcs)) ?_
      refine v_ldc2 C dX9_lay_39 g_kl_X9_68 ?_
      refine v_lc_ne (tgt := 51) C dX9_lay_42 dX9_lay_43 (by decide) (fun c_42 => ?_) (fun c_42 => absurd c_42 (fun h9 => by have h8 := congrArg Int64.toInt h9; rw [pk_lT (by omega)] at h8; have z : (-1 : Int64).toInt = -1 := rfl; omega))
      refine v_lload C dX9_lay_51 rfl ?_
      refine v_aload_n C dX9_lay_53 rfl rfl ?_
      refine v_get C dX9_lay_54 4 hM.1 rfl in_X9 (by decide) g_fl_X9_19 (fun _ h9 => h9) rfl ?_
      refine v_iload C dX9_lay_57 rfl ?_
      refine m_lld C hM dX9_lay_59 4 (e9.1) (by decide) (show _ < 40 by omega) rfl ?_
      refine v_rl (qz.trans (sat_lt hcs)) ?_
      refine v_lrem C dX9_lay_60 (fun h9 => by have h8 := (pk_lEQ (b := 0) (by omega) (by omega)).mp h9; omega) ?_
      refine v_rl (pk_lRem (by omega) (by omega) (by omega)) ?_
      refine v_lstore C dX9_lay_61 (by decide) rfl ?_
      refine v_aload_n C dX9_lay_63 rfl rfl ?_
      refine v_get C dX9_lay_64 4 hM.1 rfl in_X9 (by decide) g_fl_X9_19 (fun _ h9 => h9) rfl ?_
      refine v_iload C dX9_lay_67 rfl ?_
      refine m_lld C hM dX9_lay_69 4 (e9.1) (by decide) (show _ < 40 by omega) rfl ?_
      refine v_rl (qz.trans (sat_lt hcs)) ?_
      refine v_ldc2 C dX9_lay_70 g_kl_X9_68 ?_
      refine v_lc_ne (tgt := 81) C dX9_lay_73 dX9_lay_74 (by decide) (fun c_73 => ?_) (fun c_73 => absurd c_73 (fun h9 => by have h8 := congrArg Int64.toInt h9; rw [pk_lT (by omega)] at h8; have z : (-1 : Int64).toInt = -1 := rfl; omega))
      refine v_lload C dX9_lay_81 rfl ?_
      refine v_aload_n C dX9_lay_83 rfl rfl ?_
      refine v_get C dX9_lay_84 4 hM.1 rfl in_X9 (by decide) g_fl_X9_19 (fun _ h9 => h9) rfl ?_
      refine v_iload C dX9_lay_87 rfl ?_
      refine m_lld C hM dX9_lay_89 4 (e9.1) (by decide) (show _ < 40 by omega) rfl ?_
      refine v_rl (qz.trans (sat_lt hcs)) ?_
      refine v_ldiv C dX9_lay_90 (fun h9 => by have h8 := (pk_lEQ (b := 0) (by omega) (by omega)).mp h9; omega) ?_
      refine v_rl (pk_lDiv (by omega) (by omega) (by omega)) ?_
      refine v_lstore C dX9_lay_91 (by decide) rfl ?_
      refine v_aload C dX9_lay_93 rfl ?_
      refine v_iload C dX9_lay_95 rfl ?_
      refine v_aload_n C dX9_lay_97 rfl rfl ?_
      refine v_iload C dX9_lay_98 rfl ?_
      refine v_aload_n C dX9_lay_100 rfl rfl ?_
      refine v_get C dX9_lay_101 9 hM.1 rfl in_X9 (by decide) g_fl_X9_35 (fun _ h9 => h9) rfl ?_
      refine v_bipush (v := 8) C dX9_lay_104 (by decide) ?_
      refine v_iload_n C dX9_lay_106 rfl rfl ?_
      refine v_imul C dX9_lay_107 ?_
      refine v_iload C dX9_lay_108 rfl ?_
      refine v_iadd C dX9_lay_110 ?_
      refine m_zld C hM dX9_lay_111 ((8 * i) + j) (show _ < 320 by omega) (by simp only [← nI_add, ← pk_mul]; rfl) ?_
      refine v_ri q9 ?_
      refine v_if_eq (tgt := 130) C dX9_lay_112 (by decide) (fun c_112 => absurd c_112 (by decide)) (fun c_112 => ?_)
      refine v_aload_n C dX9_lay_115 rfl rfl ?_
      refine v_get C dX9_lay_116 4 hM.1 rfl in_X9 (by decide) g_fl_X9_19 (fun _ h9 => h9) rfl ?_
      refine v_iload C dX9_lay_119 rfl ?_
      refine m_lld C hM dX9_lay_121 4 (e9.1) (by decide) (show _ < 40 by omega) rfl ?_
      refine v_rl (qz.trans (sat_lt htc)) ?_
      refine v_lconst (v := 1) C dX9_lay_122 (by decide) ?_
      refine v_lsub C dX9_lay_123 ?_
      refine v_lload C dX9_lay_124 rfl ?_
      refine v_lsub C dX9_lay_126 ?_
      refine v_rl (show lN (cntS (sg e9.1)) - 1 - lN (X % cntS (sg e9.1)) = lN (digE sg e9 (X % cntS (sg e9.1))) by rw [show lN (cntS (sg e9.1)) - 1 = lN (cntS (sg e9.1) - 1) from lN_sub (b := 1) (by omega), lN_sub (by have h9 := Nat.mod_lt X (show 0 < cntS (sg e9.1) by omega); omega)]; unfold digE; rw [hb9]; rfl) ?_
      refine v_goto (tgt := 132) C dX9_lay_127 (by decide) ?_
      refine v_cl (r_V C (m_numberAt l D B K _ r f0 A (up1 L 12 (filG sg (l9.drop (j + 1)) (j + 1) (k0 % prodE sg (l9.drop (j + 1))) (L 12))) I e9.1 (digE sg e9 (X % cntS (sg e9.1))) hM (by omega) (by show okS (sgM A L e9.1); rw [qsg]; exact qok) (by show _ < cntS (sgM A L e9.1); rw [qsg]; exact hdl)) dX9_lay_132 hM.1 rfl g_ml_X9_144 g_im_yX9_numberAt g_se_X9_yX9_numberAt_yX9_numberAt g_in_X9 g_cd_yX9_numberAt (rn_le (by decide)) (by decide) rfl rfl hdn_yX9_numberAt (Nat.le_of_ble_eq_true rfl) ⟨Nat.le_of_ble_eq_true rfl, Nat.le_of_ble_eq_true rfl⟩) (fun r_132 f_132 hp_132 => ?_)
      obtain ⟨rfl, hf9⟩ := hp_132
      have hf9 := hf9.symm
      subst hf9
      refine v_rl (show valS (sgM A L e9.1) _ = valS (sg e9.1) (digE sg e9 (X % cntS (sg e9.1))) by rw [qsg]) ?_
      refine m_lst C hM dX9_lay_135 12 j (by decide) (show _ < 8 by omega) rfl (fun f hM => ?_)
      refine v_iinc (y := (-1)) C dX9_lay_136 rfl (by decide) (by decide) rfl ?_
      refine v_goto (tgt := 13) C dX9_lay_139 (by decide) ?_
      refine v_loc [(0, .ref (r 0)), (1, .int (nI i)), (4, .ref (r 12)), (5, .long (lN (X / cntS (sg e9.1)))), (7, .int (nI j + (-1)))] (lsub_c rfl (lsub_c rfl (lsub_c rfl (lsub_c rfl (lsub_c rfl lsub_n))))) ?_
      rw [up1_self, up1_up1, ← hgn] at hM
      rw [hleft] at ih
      exact ih f (by omega) hM
    | false =>
      rw [hb9] at q9
      by_cases hcs : cntS (sg e9.1) < 9223372036854775808
      · refine v_iload C dX9_lay_13 rfl ?_
        refine v_if_lt (tgt := 142) C dX9_lay_15 (by decide) (fun c_15 => absurd c_15 (nI_pos (by omega))) (fun c_15 => ?_)
        refine v_aload_n C dX9_lay_18 rfl rfl ?_
        refine v_get C dX9_lay_19 8 hM.1 rfl in_X9 (by decide) g_fl_X9_32 (fun _ h9 => h9) rfl ?_
        refine v_bipush (v := 8) C dX9_lay_22 (by decide) ?_
        refine v_iload_n C dX9_lay_24 rfl rfl ?_
        refine v_imul C dX9_lay_25 ?_
        refine v_iload C dX9_lay_26 rfl ?_
        refine v_iadd C dX9_lay_28 ?_
        refine m_ild C hM dX9_lay_29 8 ((8 * i) + j) (by decide) (show _ < 320 by omega) (by simp only [← nI_add, ← pk_mul]; rfl) ?_
        refine v_ri q8 ?_
        refine v_istore C dX9_lay_30 (by decide) rfl ?_
        refine v_aload_n C dX9_lay_32 rfl rfl ?_
        refine v_get C dX9_lay_33 4 hM.1 rfl in_X9 (by decide) g_fl_X9_19 (fun _ h9 => h9) rfl ?_
        refine v_iload C dX9_lay_36 rfl ?_
        refine m_lld C hM dX9_lay_38 4 (e9.1) (by decide) (show _ < 40 by omega) rfl ?_
        refine v_rl (qz.trans (sat_lt hcs)) ?_
        refine v_ldc2 C dX9_lay_39 g_kl_X9_68 ?_
        refine v_lc_ne (tgt := 51) C dX9_lay_42 dX9_lay_43 (by decide) (fun c_42 => ?_) (fun c_42 => absurd c_42 (fun h9 => by have h8 := congrArg Int64.toInt h9; rw [pk_lT (by omega)] at h8; have z : (-1 : Int64).toInt = -1 := rfl; omega))
        refine v_lload C dX9_lay_51 rfl ?_
        refine v_aload_n C dX9_lay_53 rfl rfl ?_
        refine v_get C dX9_lay_54 4 hM.1 rfl in_X9 (by decide) g_fl_X9_19 (fun _ h9 => h9) rfl ?_
        refine v_iload C dX9_lay_57 rfl ?_
        refine m_lld C hM dX9_lay_59 4 (e9.1) (by decide) (show _ < 40 by omega) rfl ?_
        refine v_rl (qz.trans (sat_lt hcs)) ?_
        refine v_lrem C dX9_lay_60 (fun h9 => by have h8 := (pk_lEQ (b := 0) (by omega) (by omega)).mp h9; omega) ?_
        refine v_rl (pk_lRem (by omega) (by omega) (by omega)) ?_
        refine v_lstore C dX9_lay_61 (by decide) rfl ?_
        refine v_aload_n C dX9_lay_63 rfl rfl ?_
        refine v_get C dX9_lay_64 4 hM.1 rfl in_X9 (by decide) g_fl_X9_19 (fun _ h9 => h9) rfl ?_
        refine v_iload C dX9_lay_67 rfl ?_
        refine m_lld C hM dX9_lay_69 4 (e9.1) (by decide) (show _ < 40 by omega) rfl ?_
        refine v_rl (qz.trans (sat_lt hcs)) ?_
        refine v_ldc2 C dX9_lay_70 g_kl_X9_68 ?_
        refine v_lc_ne (tgt := 81) C dX9_lay_73 dX9_lay_74 (by decide) (fun c_73 => ?_) (fun c_73 => absurd c_73 (fun h9 => by have h8 := congrArg Int64.toInt h9; rw [pk_lT (by omega)] at h8; have z : (-1 : Int64).toInt = -1 := rfl; omega))
        refine v_lload C dX9_lay_81 rfl ?_
        refine v_aload_n C dX9_lay_83 rfl rfl ?_
        refine v_get C dX9_lay_84 4 hM.1 rfl in_X9 (by decide) g_fl_X9_19 (fun _ h9 => h9) rfl ?_
        refine v_iload C dX9_lay_87 rfl ?_
        refine m_lld C hM dX9_lay_89 4 (e9.1) (by decide) (show _ < 40 by omega) rfl ?_
        refine v_rl (qz.trans (sat_lt hcs)) ?_
        refine v_ldiv C dX9_lay_90 (fun h9 => by have h8 := (pk_lEQ (b := 0) (by omega) (by omega)).mp h9; omega) ?_
        refine v_rl (pk_lDiv (by omega) (by omega) (by omega)) ?_
        refine v_lstore C dX9_lay_91 (by decide) rfl ?_
        refine v_aload C dX9_lay_93 rfl ?_
        refine v_iload C dX9_lay_95 rfl ?_
        refine v_aload_n C dX9_lay_97 rfl rfl ?_
        refine v_iload C dX9_lay_98 rfl ?_
        refine v_aload_n C dX9_lay_100 rfl rfl ?_
        refine v_get C dX9_lay_101 9 hM.1 rfl in_X9 (by decide) g_fl_X9_35 (fun _ h9 => h9) rfl ?_
        refine v_bipush (v := 8) C dX9_lay_104 (by decide) ?_
        refine v_iload_n C dX9_lay_106 rfl rfl ?_
        refine v_imul C dX9_lay_107 ?_
        refine v_iload C dX9_lay_108 rfl ?_
        refine v_iadd C dX9_lay_110 ?_
        refine m_zld C hM dX9_lay_111 ((8 * i) + j) (show _ < 320 by omega) (by simp only [← nI_add, ← pk_mul]; rfl) ?_
        refine v_ri q9 ?_
        refine v_if_eq (tgt := 130) C dX9_lay_112 (by decide) (fun c_112 => ?_) (fun c_112 => absurd rfl c_112)
        refine v_lload C dX9_lay_130 rfl ?_
        refine v_rl (show lN (X % cntS (sg e9.1)) = lN (digE sg e9 (X % cntS (sg e9.1))) by unfold digE; rw [hb9]; rfl) ?_
        refine v_cl (r_V C (m_numberAt l D B K _ r f0 A (up1 L 12 (filG sg (l9.drop (j + 1)) (j + 1) (k0 % prodE sg (l9.drop (j + 1))) (L 12))) I e9.1 (digE sg e9 (X % cntS (sg e9.1))) hM (by omega) (by show okS (sgM A L e9.1); rw [qsg]; exact qok) (by show _ < cntS (sgM A L e9.1); rw [qsg]; exact hdl)) dX9_lay_132 hM.1 rfl g_ml_X9_144 g_im_yX9_numberAt g_se_X9_yX9_numberAt_yX9_numberAt g_in_X9 g_cd_yX9_numberAt (rn_le (by decide)) (by decide) rfl rfl hdn_yX9_numberAt (Nat.le_of_ble_eq_true rfl) ⟨Nat.le_of_ble_eq_true rfl, Nat.le_of_ble_eq_true rfl⟩) (fun r_132 f_132 hp_132 => ?_)
        obtain ⟨rfl, hf9⟩ := hp_132
        have hf9 := hf9.symm
        subst hf9
        refine v_rl (show valS (sgM A L e9.1) _ = valS (sg e9.1) (digE sg e9 (X % cntS (sg e9.1))) by rw [qsg]) ?_
        refine m_lst C hM dX9_lay_135 12 j (by decide) (show _ < 8 by omega) rfl (fun f hM => ?_)
        refine v_iinc (y := (-1)) C dX9_lay_136 rfl (by decide) (by decide) rfl ?_
        refine v_goto (tgt := 13) C dX9_lay_139 (by decide) ?_
        refine v_loc [(0, .ref (r 0)), (1, .int (nI i)), (4, .ref (r 12)), (5, .long (lN (X / cntS (sg e9.1)))), (7, .int (nI j + (-1)))] (lsub_c rfl (lsub_c rfl (lsub_c rfl (lsub_c rfl (lsub_c rfl lsub_n))))) ?_
        rw [up1_self, up1_up1, ← hgn] at hM
        rw [hleft] at ih
        exact ih f (by omega) hM
      · refine v_iload C dX9_lay_13 rfl ?_
        refine v_if_lt (tgt := 142) C dX9_lay_15 (by decide) (fun c_15 => absurd c_15 (nI_pos (by omega))) (fun c_15 => ?_)
        refine v_aload_n C dX9_lay_18 rfl rfl ?_
        refine v_get C dX9_lay_19 8 hM.1 rfl in_X9 (by decide) g_fl_X9_32 (fun _ h9 => h9) rfl ?_
        refine v_bipush (v := 8) C dX9_lay_22 (by decide) ?_
        refine v_iload_n C dX9_lay_24 rfl rfl ?_
        refine v_imul C dX9_lay_25 ?_
        refine v_iload C dX9_lay_26 rfl ?_
        refine v_iadd C dX9_lay_28 ?_
        refine m_ild C hM dX9_lay_29 8 ((8 * i) + j) (by decide) (show _ < 320 by omega) (by simp only [← nI_add, ← pk_mul]; rfl) ?_
        refine v_ri q8 ?_
        refine v_istore C dX9_lay_30 (by decide) rfl ?_
        refine v_aload_n C dX9_lay_32 rfl rfl ?_
        refine v_get C dX9_lay_33 4 hM.1 rfl in_X9 (by decide) g_fl_X9_19 (fun _ h9 => h9) rfl ?_
        refine v_iload C dX9_lay_36 rfl ?_
        refine m_lld C hM dX9_lay_38 4 (e9.1) (by decide) (show _ < 40 by omega) rfl ?_
        refine v_rl (qz.trans (sat_ge (by omega))) ?_
        refine v_ldc2 C dX9_lay_39 g_kl_X9_68 ?_
        refine v_lc_ne (tgt := 51) C dX9_lay_42 dX9_lay_43 (by decide) (fun c_42 => absurd rfl c_42) (fun c_42 => ?_)
        refine v_lload C dX9_lay_46 rfl ?_
        refine v_rl (show lN X = lN (X % cntS (sg e9.1)) by rw [Nat.mod_eq_of_lt (by omega)]) ?_
        refine v_goto (tgt := 61) C dX9_lay_48 (by decide) ?_
        refine v_lstore C dX9_lay_61 (by decide) rfl ?_
        refine v_aload_n C dX9_lay_63 rfl rfl ?_
        refine v_get C dX9_lay_64 4 hM.1 rfl in_X9 (by decide) g_fl_X9_19 (fun _ h9 => h9) rfl ?_
        refine v_iload C dX9_lay_67 rfl ?_
        refine m_lld C hM dX9_lay_69 4 (e9.1) (by decide) (show _ < 40 by omega) rfl ?_
        refine v_rl (qz.trans (sat_ge (by omega))) ?_
        refine v_ldc2 C dX9_lay_70 g_kl_X9_68 ?_
        refine v_lc_ne (tgt := 81) C dX9_lay_73 dX9_lay_74 (by decide) (fun c_73 => absurd rfl c_73) (fun c_73 => ?_)
        refine v_lconst (v := 0) C dX9_lay_77 (by decide) ?_
        refine v_rl (show (0 : Int64) = lN (X / cntS (sg e9.1)) by rw [Nat.div_eq_of_lt (by omega)]; rfl) ?_
        refine v_goto (tgt := 91) C dX9_lay_78 (by decide) ?_
        refine v_lstore C dX9_lay_91 (by decide) rfl ?_
        refine v_aload C dX9_lay_93 rfl ?_
        refine v_iload C dX9_lay_95 rfl ?_
        refine v_aload_n C dX9_lay_97 rfl rfl ?_
        refine v_iload C dX9_lay_98 rfl ?_
        refine v_aload_n C dX9_lay_100 rfl rfl ?_
        refine v_get C dX9_lay_101 9 hM.1 rfl in_X9 (by decide) g_fl_X9_35 (fun _ h9 => h9) rfl ?_
        refine v_bipush (v := 8) C dX9_lay_104 (by decide) ?_
        refine v_iload_n C dX9_lay_106 rfl rfl ?_
        refine v_imul C dX9_lay_107 ?_
        refine v_iload C dX9_lay_108 rfl ?_
        refine v_iadd C dX9_lay_110 ?_
        refine m_zld C hM dX9_lay_111 ((8 * i) + j) (show _ < 320 by omega) (by simp only [← nI_add, ← pk_mul]; rfl) ?_
        refine v_ri q9 ?_
        refine v_if_eq (tgt := 130) C dX9_lay_112 (by decide) (fun c_112 => ?_) (fun c_112 => absurd rfl c_112)
        refine v_lload C dX9_lay_130 rfl ?_
        refine v_rl (show lN (X % cntS (sg e9.1)) = lN (digE sg e9 (X % cntS (sg e9.1))) by unfold digE; rw [hb9]; rfl) ?_
        refine v_cl (r_V C (m_numberAt l D B K _ r f0 A (up1 L 12 (filG sg (l9.drop (j + 1)) (j + 1) (k0 % prodE sg (l9.drop (j + 1))) (L 12))) I e9.1 (digE sg e9 (X % cntS (sg e9.1))) hM (by omega) (by show okS (sgM A L e9.1); rw [qsg]; exact qok) (by show _ < cntS (sgM A L e9.1); rw [qsg]; exact hdl)) dX9_lay_132 hM.1 rfl g_ml_X9_144 g_im_yX9_numberAt g_se_X9_yX9_numberAt_yX9_numberAt g_in_X9 g_cd_yX9_numberAt (rn_le (by decide)) (by decide) rfl rfl hdn_yX9_numberAt (Nat.le_of_ble_eq_true rfl) ⟨Nat.le_of_ble_eq_true rfl, Nat.le_of_ble_eq_true rfl⟩) (fun r_132 f_132 hp_132 => ?_)
        obtain ⟨rfl, hf9⟩ := hp_132
        have hf9 := hf9.symm
        subst hf9
        refine v_rl (show valS (sgM A L e9.1) _ = valS (sg e9.1) (digE sg e9 (X % cntS (sg e9.1))) by rw [qsg]) ?_
        refine m_lst C hM dX9_lay_135 12 j (by decide) (show _ < 8 by omega) rfl (fun f hM => ?_)
        refine v_iinc (y := (-1)) C dX9_lay_136 rfl (by decide) (by decide) rfl ?_
        refine v_goto (tgt := 13) C dX9_lay_139 (by decide) ?_
        refine v_loc [(0, .ref (r 0)), (1, .int (nI i)), (4, .ref (r 12)), (5, .long (lN (X / cntS (sg e9.1)))), (7, .int (nI j + (-1)))] (lsub_c rfl (lsub_c rfl (lsub_c rfl (lsub_c rfl (lsub_c rfl lsub_n))))) ?_
        rw [up1_self, up1_up1, ← hgn] at hM
        rw [hleft] at ih
        exact ih f (by omega) hM

set_option maxHeartbeats 4000000 in
set_option maxRecDepth 100000 in
theorem m_lay12 (l : Launch) (D : va_G) (B : Nat) (K : Nat → ClassId) (f : St) (r : Nat → Nat) (f0 : St) (A : Nat → Nat → Int32) (L : Nat → Nat → Int64) (I : Nat → Int32) (sg : Nat → Sg) (l9 : List Ent) (i n : Nat) (hM : MC K r f0 f A L I) (hrow : RowM A L sg l9 i n) (hi : i < 40) (hn : n ≤ 40) (hti : ∀ e ∈ l9, e.2.1 = true → cntS (sg e.1) < 9223372036854775808) (k0 : Nat) (hk0 : k0 < prodE sg l9) (hk1 : k0 < 9223372036854775808) : Kc l D B K yX9_lay cX9_lay 11 (none) 2 0 0 [.ref (r 0), .int (nI i), .long (lN k0), .ref (r 12)] f (Qv_ D B (fun f9 => MC K r f0 f9 A (up1 L 12 (filG sg l9 0 k0 (L 12))) I)) := by
  refine v_met [(0, .ref (r 0)), (1, .int (nI i)), (2, .long (lN k0)), (4, .ref (r 12))] (by decide) (Nat.le_of_ble_eq_true rfl) rfl ?_
  intro p e s m args below meth c C hr hlk hin
  refine v_lload_n C dX9_lay_0 rfl rfl ?_
  refine v_lstore C dX9_lay_1 (by decide) rfl ?_
  refine v_aload_n C dX9_lay_3 rfl rfl ?_
  refine v_get C dX9_lay_4 3 hM.1 rfl in_X9 (by decide) g_fl_X9_16 (fun _ h9 => h9) rfl ?_
  refine v_iload_n C dX9_lay_7 rfl rfl ?_
  refine m_ild C hM dX9_lay_8 3 i (by decide) (show _ < 40 by omega) rfl ?_
  refine v_ri hrow.1 ?_
  refine v_iconst (v := 1) C dX9_lay_9 (by decide) ?_
  refine v_isub C dX9_lay_10 ?_
  refine v_ri (Int32.sub_eq_add_neg _ _) ?_
  refine v_istore C dX9_lay_11 (by decide) rfl ?_
  refine v_loc [(0, .ref (r 0)), (1, .int (nI i)), (4, .ref (r 12)), (5, .long (lN (k0 / prodE sg (l9.drop l9.length)))), (7, .int (nI l9.length + (-1)))] (lsub_c rfl (lsub_c rfl (lsub_c rfl (lsub_c (by rw [List.drop_length]; show _ = some (Value.long (lN (k0 / 1))); rw [Nat.div_one]; rfl) (lsub_c rfl lsub_n))))) ?_
  exact L_lay12 C hr hlk r f0 A L I sg l9 i n hrow hi hn hti k0 hk0 hk1 l9.length f (Nat.le_refl _) (by rw [List.drop_length, filG_nil, up1_id]; exact hM)

set_option maxHeartbeats 4000000 in
set_option maxRecDepth 100000 in
theorem m_addSingle_full (l : Launch) (D : va_G) (B : Nat) (K : Nat → ClassId) (f : St) (r : Nat → Nat) (f0 : St) (A : Nat → Nat → Int32) (L : Nat → Nat → Int64) (I : Nat → Int32) (n : Nat) (kd : Int32) (a b : Int64) (sp : Int32) (hM : MC K r f0 f A L I) (hI0 : I 0 = nI n) (hn : n = 40) : Kc l D B K yX9_addSingle cX9_addSingle 8 ((some .int)) 2 0 0 [.ref (r 0), .int kd, .long a, .long b, .int sp] f (Qi_ D B (fun x f9 => x = -104 ∧ f9 = f)) := by
  refine v_met [(0, .ref (r 0)), (1, .int kd), (2, .long a), (4, .long b), (6, .int sp)] (by decide) (Nat.le_of_ble_eq_true rfl) rfl ?_
  intro p e s m args below meth c C hr hlk hin
  refine v_aload_n C dX9_addSingle_0 rfl rfl ?_
  refine v_get C dX9_addSingle_1 0 hM.1 rfl in_X9 (by decide) g_fl_X9_54 (fun _ h9 => h9) rfl ?_
  refine v_ri hI0 ?_
  refine v_bipush (v := 40) C dX9_addSingle_4 (by decide) ?_
  refine v_icmp_ne (tgt := 12) C dX9_addSingle_6 (by decide) (fun c_6 => absurd (by rw [hn]; rfl) c_6) (fun c_6 => ?_)
  refine v_bipush (v := (-104)) C dX9_addSingle_9 (by decide) ?_
  exact v_iret C hr hlk dX9_addSingle_11 (Nat.le_refl _) (Nat.le_refl _) ⟨rfl, rfl⟩

def addA (A : Nat → Nat → Int32) (n : Nat) (kd sp : Int32) : Nat → Nat → Int32 := up1 (up1 (up1 (up1 (up1 (up1 (up1 A 1 (upd (A 1) n kd)) 2 (upd (A 2) n 0)) 3 (upd (A 3) n 1)) 7 (upd (A 7) n sp)) 8 (upd (A 8) (8 * n) (nI n))) 9 (upd (A 9) (8 * n) 0)) 10 (upd (A 10) (8 * n) 0)
def addL (L : Nat → Nat → Int64) (n : Nat) (q : Sg) : Nat → Nat → Int64 := up1 (up1 (up1 L 5 (vp_updL (L 5) n q.2.1)) 6 (vp_updL (L 6) n q.2.2.1)) 4 (vp_updL (L 4) n (sat (cntS q)))
theorem sg_add {A : Nat → Nat → Int32} {L : Nat → Nat → Int64} {n : Nat} {kd sp : Int32} {a b : Int64} : sgM (addA A n kd sp) (up1 (up1 L 5 (vp_updL (L 5) n a)) 6 (vp_updL (L 6) n b)) n = (kd, a, b, sp) := by
  show (upd (A 1) n kd n, vp_updL (L 5) n a n, vp_updL (L 6) n b n, upd (A 7) n sp n) = _
  rw [pk_us, pk_us, pk_uLs, pk_uLs]
set_option maxHeartbeats 4000000 in
set_option maxRecDepth 100000 in
theorem m_addSingle_new (l : Launch) (D : va_G) (B : Nat) (K : Nat → ClassId) (f : St) (r : Nat → Nat) (f0 : St) (A : Nat → Nat → Int32) (L : Nat → Nat → Int64) (I : Nat → Int32) (n : Nat) (kd : Int32) (a b : Int64) (sp : Int32) (hM : MC K r f0 f A L I) (hI0 : I 0 = nI n) (hn : n < 40) (hq : okS (kd, a, b, sp)) : Kc l D B K yX9_addSingle cX9_addSingle 8 ((some .int)) 2 0 0 [.ref (r 0), .int kd, .long a, .long b, .int sp] f (Qi_ D B (fun x f9 => x = nI n ∧ MC K r f0 f9 (addA A n kd sp) (addL L n (kd, a, b, sp)) (up1 I 0 (nI (n + 1))))) := by
  refine v_met [(0, .ref (r 0)), (1, .int kd), (2, .long a), (4, .long b), (6, .int sp)] (by decide) (Nat.le_of_ble_eq_true rfl) rfl ?_
  intro p e s m args below meth c C hr hlk hin
  refine v_aload_n C dX9_addSingle_0 rfl rfl ?_
  refine v_get C dX9_addSingle_1 0 hM.1 rfl in_X9 (by decide) g_fl_X9_54 (fun _ h9 => h9) rfl ?_
  refine v_ri hI0 ?_
  refine v_bipush (v := 40) C dX9_addSingle_4 (by decide) ?_
  refine v_icmp_ne (tgt := 12) C dX9_addSingle_6 (by decide) (fun c_6 => ?_) (fun c_6 => absurd c_6 (fun h9 => by have h8 := (nI_eq (b := 40) (by omega) (by omega)).mp h9; omega))
  refine v_aload_n C dX9_addSingle_12 rfl rfl ?_
  refine v_get C dX9_addSingle_13 0 hM.1 rfl in_X9 (by decide) g_fl_X9_54 (fun _ h9 => h9) rfl ?_
  refine v_ri hI0 ?_
  refine v_istore C dX9_addSingle_16 (by decide) rfl ?_
  refine v_aload_n C dX9_addSingle_18 rfl rfl ?_
  refine v_get C dX9_addSingle_19 1 hM.1 rfl in_X9 (by decide) g_fl_X9_7 (fun _ h9 => h9) rfl ?_
  refine v_iload C dX9_addSingle_22 rfl ?_
  refine v_iload_n C dX9_addSingle_24 rfl rfl ?_
  refine m_ist C hM dX9_addSingle_25 1 n (by decide) (show _ < 40 by omega) rfl (fun f hM => ?_)
  refine v_aload_n C dX9_addSingle_26 rfl rfl ?_
  refine v_get C dX9_addSingle_27 2 hM.1 rfl in_X9 (by decide) g_fl_X9_13 (fun _ h9 => h9) rfl ?_
  refine v_iload C dX9_addSingle_30 rfl ?_
  refine v_iconst (v := 0) C dX9_addSingle_32 (by decide) ?_
  refine m_ist C hM dX9_addSingle_33 2 n (by decide) (show _ < 40 by omega) rfl (fun f hM => ?_)
  refine v_aload_n C dX9_addSingle_34 rfl rfl ?_
  refine v_get C dX9_addSingle_35 3 hM.1 rfl in_X9 (by decide) g_fl_X9_16 (fun _ h9 => h9) rfl ?_
  refine v_iload C dX9_addSingle_38 rfl ?_
  refine v_iconst (v := 1) C dX9_addSingle_40 (by decide) ?_
  refine m_ist C hM dX9_addSingle_41 3 n (by decide) (show _ < 40 by omega) rfl (fun f hM => ?_)
  refine v_aload_n C dX9_addSingle_42 rfl rfl ?_
  refine v_get C dX9_addSingle_43 5 hM.1 rfl in_X9 (by decide) g_fl_X9_23 (fun _ h9 => h9) rfl ?_
  refine v_iload C dX9_addSingle_46 rfl ?_
  refine v_lload_n C dX9_addSingle_48 rfl rfl ?_
  refine m_lst C hM dX9_addSingle_49 5 n (by decide) (show _ < 40 by omega) rfl (fun f hM => ?_)
  refine v_aload_n C dX9_addSingle_50 rfl rfl ?_
  refine v_get C dX9_addSingle_51 6 hM.1 rfl in_X9 (by decide) g_fl_X9_26 (fun _ h9 => h9) rfl ?_
  refine v_iload C dX9_addSingle_54 rfl ?_
  refine v_lload C dX9_addSingle_56 rfl ?_
  refine m_lst C hM dX9_addSingle_58 6 n (by decide) (show _ < 40 by omega) rfl (fun f hM => ?_)
  refine v_aload_n C dX9_addSingle_59 rfl rfl ?_
  refine v_get C dX9_addSingle_60 7 hM.1 rfl in_X9 (by decide) g_fl_X9_29 (fun _ h9 => h9) rfl ?_
  refine v_iload C dX9_addSingle_63 rfl ?_
  refine v_iload C dX9_addSingle_65 rfl ?_
  refine m_ist C hM dX9_addSingle_67 7 n (by decide) (show _ < 40 by omega) rfl (fun f hM => ?_)
  refine v_aload_n C dX9_addSingle_68 rfl rfl ?_
  refine v_get C dX9_addSingle_69 8 hM.1 rfl in_X9 (by decide) g_fl_X9_32 (fun _ h9 => h9) rfl ?_
  refine v_bipush (v := 8) C dX9_addSingle_72 (by decide) ?_
  refine v_iload C dX9_addSingle_74 rfl ?_
  refine v_imul C dX9_addSingle_76 ?_
  refine v_iload C dX9_addSingle_77 rfl ?_
  refine m_ist C hM dX9_addSingle_79 8 (8 * n) (by decide) (show _ < 320 by omega) (by simp only [← nI_add, ← pk_mul]; rfl) (fun f hM => ?_)
  refine v_aload_n C dX9_addSingle_80 rfl rfl ?_
  refine v_get C dX9_addSingle_81 9 hM.1 rfl in_X9 (by decide) g_fl_X9_35 (fun _ h9 => h9) rfl ?_
  refine v_bipush (v := 8) C dX9_addSingle_84 (by decide) ?_
  refine v_iload C dX9_addSingle_86 rfl ?_
  refine v_imul C dX9_addSingle_88 ?_
  refine v_iconst (v := 0) C dX9_addSingle_89 (by decide) ?_
  refine m_zst C hM dX9_addSingle_90 (8 * n) (show _ < 320 by omega) (by simp only [← nI_add, ← pk_mul]; rfl) rfl (fun f hM => ?_)
  refine v_aload_n C dX9_addSingle_91 rfl rfl ?_
  refine v_get C dX9_addSingle_92 10 hM.1 rfl in_X9 (by decide) g_fl_X9_39 (fun _ h9 => h9) rfl ?_
  refine v_bipush (v := 8) C dX9_addSingle_95 (by decide) ?_
  refine v_iload C dX9_addSingle_97 rfl ?_
  refine v_imul C dX9_addSingle_99 ?_
  refine v_iconst (v := 0) C dX9_addSingle_100 (by decide) ?_
  refine m_ist C hM dX9_addSingle_101 10 (8 * n) (by decide) (show _ < 320 by omega) (by simp only [← nI_add, ← pk_mul]; rfl) (fun f hM => ?_)
  refine v_aload_n C dX9_addSingle_102 rfl rfl ?_
  refine v_get C dX9_addSingle_103 4 hM.1 rfl in_X9 (by decide) g_fl_X9_19 (fun _ h9 => h9) rfl ?_
  refine v_iload C dX9_addSingle_106 rfl ?_
  refine v_aload_n C dX9_addSingle_108 rfl rfl ?_
  refine v_iload C dX9_addSingle_109 rfl ?_
  refine v_cl (r_V C (m_singleSize l D B K _ r f0 (addA A n kd sp) (up1 (up1 L 5 (vp_updL (L 5) n a)) 6 (vp_updL (L 6) n b)) I n hM hn (by rw [sg_add]; exact hq)) dX9_addSingle_111 hM.1 rfl g_ml_X9_78 g_im_yX9_singleSize g_se_X9_yX9_singleSize_yX9_singleSize g_in_X9 g_cd_yX9_singleSize (rn_le (by decide)) (by decide) rfl rfl hdn_yX9_singleSize (Nat.le_of_ble_eq_true rfl) ⟨Nat.le_of_ble_eq_true rfl, Nat.le_of_ble_eq_true rfl⟩) (fun r_111 f_111 hp_111 => ?_)
  obtain ⟨rfl, hf9⟩ := hp_111
  have hf9 := hf9.symm
  subst hf9
  refine v_rl (show _ = sat (cntS (kd, a, b, sp)) by rw [sg_add]) ?_
  refine m_lst C hM dX9_addSingle_114 4 n (by decide) (show _ < 40 by omega) rfl (fun f hM => ?_)
  refine v_aload_n C dX9_addSingle_115 rfl rfl ?_
  refine v_dup C dX9_addSingle_116 rfl ?_
  refine v_get C dX9_addSingle_117 0 hM.1 rfl in_X9 (by decide) g_fl_X9_54 (fun _ h9 => h9) rfl ?_
  refine v_iconst (v := 1) C dX9_addSingle_120 (by decide) ?_
  refine v_iadd C dX9_addSingle_121 ?_
  refine v_ri (show I 0 + 1 = nI (n + 1) by rw [hI0, nI_1]) ?_
  refine m_put C hM dX9_addSingle_122 0 (by decide) g_fl_X9_54 (fun f hM => ?_)
  refine v_iload C dX9_addSingle_125 rfl ?_
  exact v_iret C hr hlk dX9_addSingle_127 (Nat.le_refl _) (Nat.le_refl _) ⟨rfl, hM⟩

