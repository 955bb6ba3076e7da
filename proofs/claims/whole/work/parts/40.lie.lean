/-! the reference: what lies in what -/
theorem la1 {kd sp : Int32} {a b : Int64} (hq : okS (kd, a, b, sp)) (h2 : ¬ kd = 2) (hs : 0 < sp.toInt) (hc : 1 ≤ cntS (kd, a, b, sp)) : b - loM b a sp.toInt64 = valS (kd, a, b, sp) (cntS (kd, a, b, sp) - 1) := by
  obtain ⟨b1, b2, b3⟩ := hq.2 h2
  simp only at b1 b2 b3
  have hlo : (loM b a sp.toInt64).toInt = (b.toInt - a.toInt) % sp.toInt := by rw [lo_eq (by rw [i2l_toInt]; omega) (by rw [i2l_toInt]; omega), i2l_toInt]
  unfold cntS at hc ⊢
  simp only [if_neg h2, if_pos hs] at hc ⊢
  by_cases hab : b.toInt < a.toInt
  · rw [if_pos hab] at hc; omega
  · rw [if_neg hab]
    have hdm := Int.mul_ediv_add_emod (b.toInt - a.toInt) sp.toInt
    have hmm := Int.emod_lt_of_pos (b.toInt - a.toInt) hs
    have hmn := Int.emod_nonneg (b.toInt - a.toInt) b1
    have hdn := Int.ediv_nonneg (show 0 ≤ b.toInt - a.toInt by omega) (show 0 ≤ sp.toInt by omega)
    have hmul : 0 ≤ sp.toInt * ((b.toInt - a.toInt) / sp.toInt) := Int.mul_nonneg (by omega) hdn
    have h1 := b.toInt_lt
    have h3 := b.le_toInt
    have h4 := a.le_toInt
    have h5 := a.toInt_lt
    rw [Nat.add_sub_cancel]
    unfold valS
    simp only [if_neg h2]
    apply Int64.toInt_inj.mp
    rw [Int64.toInt_ofInt, Int64.toInt_sub, hlo, Int.toNat_of_nonneg hdn, Int.mul_comm]
    rw [show a.toInt + sp.toInt * ((b.toInt - a.toInt) / sp.toInt) = b.toInt - (b.toInt - a.toInt) % sp.toInt by omega]
theorem la2 {kd sp : Int32} {a b : Int64} (hq : okS (kd, a, b, sp)) (h2 : ¬ kd = 2) (hs : ¬ 0 < sp.toInt) (hc : 1 ≤ cntS (kd, a, b, sp)) : b + loM a b (-sp.toInt64) = valS (kd, a, b, sp) (cntS (kd, a, b, sp) - 1) := by
  obtain ⟨b1, b2, b3⟩ := hq.2 h2
  simp only at b1 b2 b3
  have hlo : (loM a b (-sp.toInt64)).toInt = (a.toInt - b.toInt) % (-sp.toInt) := by rw [lo_eq (by rw [lneg_toInt b2 b3]; omega) (by rw [lneg_toInt b2 b3]; omega), lneg_toInt b2 b3]
  unfold cntS at hc ⊢
  simp only [if_neg h2, if_neg hs] at hc ⊢
  by_cases hab : a.toInt < b.toInt
  · rw [if_pos hab] at hc; omega
  · rw [if_neg hab]
    have hdm := Int.mul_ediv_add_emod (a.toInt - b.toInt) (-sp.toInt)
    have hdn := Int.ediv_nonneg (show 0 ≤ a.toInt - b.toInt by omega) (show 0 ≤ -sp.toInt by omega)
    rw [Nat.add_sub_cancel]
    unfold valS
    simp only [if_neg h2]
    apply Int64.toInt_inj.mp
    rw [Int64.toInt_ofInt, Int64.toInt_add, hlo, Int.toNat_of_nonneg hdn, Int.mul_comm]
    rw [show a.toInt + sp.toInt * ((a.toInt - b.toInt) / (-sp.toInt)) = b.toInt + (a.toInt - b.toInt) % (-sp.toInt) by rw [Int.neg_mul] at hdm; omega]
theorem va0 {kd sp : Int32} {a b : Int64} (h2 : ¬ kd = 2) : valS (kd, a, b, sp) 0 = a := by
  rw [← na2 (k := 0) h2]
  show a + 0 * _ = a
  rw [Int64.zero_mul, Int64.add_zero]
theorem dv_sign {x y : Int} : ((-x) % y = 0 ↔ x % y = 0) ∧ (x % (-y) = 0 ↔ x % y = 0) ∧ ((-x) % (-y) = 0 ↔ x % y = 0) := by
  refine ⟨?_, ?_, ?_⟩ <;> rw [← Int.dvd_iff_emod_eq_zero, ← Int.dvd_iff_emod_eq_zero] <;> simp [Int.dvd_neg, Int.neg_dvd]
theorem lr_0 {a b : Int64} (ha : 0 ≤ a.toInt) (hb : 0 < b.toInt) (hb2 : b.toInt ≤ 1000000) : a - a / b * b = 0 ↔ a.toInt % b.toInt = 0 := by
  rw [l_eq0, lrem_toInt hb hb2, Int.tmod_eq_emod_of_nonneg ha]
set_option maxHeartbeats 4000000 in
set_option maxRecDepth 100000 in
theorem m_lastOf (l : Launch) (D : va_G) (B : Nat) (K : Nat → ClassId) (f : St) (r : Nat → Nat) (f0 : St) (A : Nat → Nat → Int32) (L : Nat → Nat → Int64) (I : Nat → Int32) (o : Nat) (hM : MC K r f0 f A L I) (ho : o < 40) (hq : okS (sgM A L o)) (hk : ¬ A 1 o = 2) (hc : 1 ≤ cntS (sgM A L o)) : Kc l D B K yX9_lastOf cX9_lastOf 6 ((some .long)) 1 0 0 [.ref (r 0), .int (nI o)] f (Ql_ D B (fun x f9 => x = valS (sgM A L o) (cntS (sgM A L o) - 1) ∧ f9 = f)) := by
  refine v_met [(0, .ref (r 0)), (1, .int (nI o))] (by decide) (Nat.le_of_ble_eq_true rfl) rfl ?_
  intro p e s m args below meth c C hr hlk hin
  by_cases hs : A 7 o ≤ 0
  · refine v_aload_n C dX9_lastOf_0 rfl rfl ?_
    refine v_get C dX9_lastOf_1 7 hM.1 rfl in_X9 (by decide) g_fl_X9_29 (fun _ h9 => h9) rfl ?_
    refine v_iload_n C dX9_lastOf_4 rfl rfl ?_
    refine m_ild C hM dX9_lastOf_5 7 o (by decide) (show _ < 40 by omega) rfl ?_
    refine v_if_le (tgt := 19) C dX9_lastOf_6 (by decide) (fun c_6 => ?_) (fun c_6 => absurd hs c_6)
    refine v_aload_n C dX9_lastOf_19 rfl rfl ?_
    refine v_get C dX9_lastOf_20 7 hM.1 rfl in_X9 (by decide) g_fl_X9_29 (fun _ h9 => h9) rfl ?_
    refine v_iload_n C dX9_lastOf_23 rfl rfl ?_
    refine m_ild C hM dX9_lastOf_24 7 o (by decide) (show _ < 40 by omega) rfl ?_
    refine v_i2l C dX9_lastOf_25 ?_
    refine v_lneg C dX9_lastOf_26 ?_
    refine v_lstore_n C dX9_lastOf_27 rfl (by decide) rfl ?_
    refine v_aload_n C dX9_lastOf_28 rfl rfl ?_
    refine v_get C dX9_lastOf_29 6 hM.1 rfl in_X9 (by decide) g_fl_X9_26 (fun _ h9 => h9) rfl ?_
    refine v_iload_n C dX9_lastOf_32 rfl rfl ?_
    refine m_lld C hM dX9_lastOf_33 6 o (by decide) (show _ < 40 by omega) rfl ?_
    refine v_aload_n C dX9_lastOf_34 rfl rfl ?_
    refine v_get C dX9_lastOf_35 5 hM.1 rfl in_X9 (by decide) g_fl_X9_23 (fun _ h9 => h9) rfl ?_
    refine v_iload_n C dX9_lastOf_38 rfl rfl ?_
    refine m_lld C hM dX9_lastOf_39 5 o (by decide) (show _ < 40 by omega) rfl ?_
    refine v_lload_n C dX9_lastOf_40 rfl rfl ?_
    refine v_cl (r_S C (m_leftOver l D B K _ _ _ _ (st_ne2 (kd := A 1 o) (sp := A 7 o) (a := L 5 o) (b := L 6 o) hq hk (up_neg hs))) dX9_lastOf_41 g_ml_X9_94 g_st_yX9_leftOver g_in_X9 g_cd_yX9_leftOver (rn_le (by decide)) (by decide) rfl hdn_yX9_leftOver (Nat.le_of_ble_eq_true rfl) ⟨Nat.le_of_ble_eq_true rfl, Nat.le_of_ble_eq_true rfl⟩) (fun r_41 f_41 hp_41 => ?_)
    obtain ⟨rfl, hf9⟩ := hp_41
    have hf9 := hf9.symm
    subst hf9
    refine v_lstore C dX9_lastOf_44 (by decide) rfl ?_
    refine v_aload_n C dX9_lastOf_46 rfl rfl ?_
    refine v_get C dX9_lastOf_47 7 hM.1 rfl in_X9 (by decide) g_fl_X9_29 (fun _ h9 => h9) rfl ?_
    refine v_iload_n C dX9_lastOf_50 rfl rfl ?_
    refine m_ild C hM dX9_lastOf_51 7 o (by decide) (show _ < 40 by omega) rfl ?_
    refine v_if_le (tgt := 67) C dX9_lastOf_52 (by decide) (fun c_52 => ?_) (fun c_52 => absurd hs c_52)
    refine v_aload_n C dX9_lastOf_67 rfl rfl ?_
    refine v_get C dX9_lastOf_68 6 hM.1 rfl in_X9 (by decide) g_fl_X9_26 (fun _ h9 => h9) rfl ?_
    refine v_iload_n C dX9_lastOf_71 rfl rfl ?_
    refine m_lld C hM dX9_lastOf_72 6 o (by decide) (show _ < 40 by omega) rfl ?_
    refine v_aload_n C dX9_lastOf_73 rfl rfl ?_
    refine v_get C dX9_lastOf_74 5 hM.1 rfl in_X9 (by decide) g_fl_X9_23 (fun _ h9 => h9) rfl ?_
    refine v_iload_n C dX9_lastOf_77 rfl rfl ?_
    refine m_lld C hM dX9_lastOf_78 5 o (by decide) (show _ < 40 by omega) rfl ?_
    refine v_aload_n C dX9_lastOf_79 rfl rfl ?_
    refine v_get C dX9_lastOf_80 6 hM.1 rfl in_X9 (by decide) g_fl_X9_26 (fun _ h9 => h9) rfl ?_
    refine v_iload_n C dX9_lastOf_83 rfl rfl ?_
    refine m_lld C hM dX9_lastOf_84 6 o (by decide) (show _ < 40 by omega) rfl ?_
    refine v_lload_n C dX9_lastOf_85 rfl rfl ?_
    refine v_cl (r_S C (m_leftOver l D B K _ _ _ _ (st_ne2 (kd := A 1 o) (sp := A 7 o) (a := L 5 o) (b := L 6 o) hq hk (up_neg hs))) dX9_lastOf_86 g_ml_X9_94 g_st_yX9_leftOver g_in_X9 g_cd_yX9_leftOver (rn_le (by decide)) (by decide) rfl hdn_yX9_leftOver (Nat.le_of_ble_eq_true rfl) ⟨Nat.le_of_ble_eq_true rfl, Nat.le_of_ble_eq_true rfl⟩) (fun r_86 f_86 hp_86 => ?_)
    obtain ⟨rfl, hf9⟩ := hp_86
    have hf9 := hf9.symm
    subst hf9
    refine v_ladd C dX9_lastOf_89 ?_
    exact v_lret C hr hlk dX9_lastOf_90 (Nat.le_refl _) (Nat.le_refl _) ⟨la2 (kd := A 1 o) (sp := A 7 o) (a := L 5 o) (b := L 6 o) hq hk (up_neg hs) hc, rfl⟩
  · refine v_aload_n C dX9_lastOf_0 rfl rfl ?_
    refine v_get C dX9_lastOf_1 7 hM.1 rfl in_X9 (by decide) g_fl_X9_29 (fun _ h9 => h9) rfl ?_
    refine v_iload_n C dX9_lastOf_4 rfl rfl ?_
    refine m_ild C hM dX9_lastOf_5 7 o (by decide) (show _ < 40 by omega) rfl ?_
    refine v_if_le (tgt := 19) C dX9_lastOf_6 (by decide) (fun c_6 => absurd c_6 hs) (fun c_6 => ?_)
    refine v_aload_n C dX9_lastOf_9 rfl rfl ?_
    refine v_get C dX9_lastOf_10 7 hM.1 rfl in_X9 (by decide) g_fl_X9_29 (fun _ h9 => h9) rfl ?_
    refine v_iload_n C dX9_lastOf_13 rfl rfl ?_
    refine m_ild C hM dX9_lastOf_14 7 o (by decide) (show _ < 40 by omega) rfl ?_
    refine v_i2l C dX9_lastOf_15 ?_
    refine v_goto (tgt := 27) C dX9_lastOf_16 (by decide) ?_
    refine v_lstore_n C dX9_lastOf_27 rfl (by decide) rfl ?_
    refine v_aload_n C dX9_lastOf_28 rfl rfl ?_
    refine v_get C dX9_lastOf_29 6 hM.1 rfl in_X9 (by decide) g_fl_X9_26 (fun _ h9 => h9) rfl ?_
    refine v_iload_n C dX9_lastOf_32 rfl rfl ?_
    refine m_lld C hM dX9_lastOf_33 6 o (by decide) (show _ < 40 by omega) rfl ?_
    refine v_aload_n C dX9_lastOf_34 rfl rfl ?_
    refine v_get C dX9_lastOf_35 5 hM.1 rfl in_X9 (by decide) g_fl_X9_23 (fun _ h9 => h9) rfl ?_
    refine v_iload_n C dX9_lastOf_38 rfl rfl ?_
    refine m_lld C hM dX9_lastOf_39 5 o (by decide) (show _ < 40 by omega) rfl ?_
    refine v_lload_n C dX9_lastOf_40 rfl rfl ?_
    refine v_cl (r_S C (m_leftOver l D B K _ _ _ _ (st_ne1 (kd := A 1 o) (sp := A 7 o) (a := L 5 o) (b := L 6 o) hq hk (up_pos hs))) dX9_lastOf_41 g_ml_X9_94 g_st_yX9_leftOver g_in_X9 g_cd_yX9_leftOver (rn_le (by decide)) (by decide) rfl hdn_yX9_leftOver (Nat.le_of_ble_eq_true rfl) ⟨Nat.le_of_ble_eq_true rfl, Nat.le_of_ble_eq_true rfl⟩) (fun r_41 f_41 hp_41 => ?_)
    obtain ⟨rfl, hf9⟩ := hp_41
    have hf9 := hf9.symm
    subst hf9
    refine v_lstore C dX9_lastOf_44 (by decide) rfl ?_
    refine v_aload_n C dX9_lastOf_46 rfl rfl ?_
    refine v_get C dX9_lastOf_47 7 hM.1 rfl in_X9 (by decide) g_fl_X9_29 (fun _ h9 => h9) rfl ?_
    refine v_iload_n C dX9_lastOf_50 rfl rfl ?_
    refine m_ild C hM dX9_lastOf_51 7 o (by decide) (show _ < 40 by omega) rfl ?_
    refine v_if_le (tgt := 67) C dX9_lastOf_52 (by decide) (fun c_52 => absurd c_52 hs) (fun c_52 => ?_)
    refine v_aload_n C dX9_lastOf_55 rfl rfl ?_
    refine v_get C dX9_lastOf_56 6 hM.1 rfl in_X9 (by decide) g_fl_X9_26 (fun _ h9 => h9) rfl ?_
    refine v_iload_n C dX9_lastOf_59 rfl rfl ?_
    refine m_lld C hM dX9_lastOf_60 6 o (by decide) (show _ < 40 by omega) rfl ?_
    refine v_lload C dX9_lastOf_61 rfl ?_
    refine v_lsub C dX9_lastOf_63 ?_
    refine v_goto (tgt := 90) C dX9_lastOf_64 (by decide) ?_
    exact v_lret C hr hlk dX9_lastOf_90 (Nat.le_refl _) (Nat.le_refl _) ⟨la1 (kd := A 1 o) (sp := A 7 o) (a := L 5 o) (b := L 6 o) hq hk (up_pos hs) hc, rfl⟩

set_option maxHeartbeats 4000000 in
set_option maxRecDepth 100000 in
theorem L_lies {p : Program} {l : Launch} {e : Env} {s : State} {m : MethodId} {args : Array Value} {below : List Frame} {meth : Method} {c : Code} {D : va_G} {B : Nat} {K : Nat → ClassId} (C : Cx p s m args c cX9_liesIn 9 yX9_liesIn.cls D B K) (hr : meth.sig.returnType = (some .boolean)) (hlk : meth.locks = false) (f : St) (r : Nat → Nat) (f0 : St) (A : Nat → Nat → Int32) (L : Nat → Nat → Int64) (I : Nat → Int32) (o1 o2 : Nat) (hM : MC K r f0 f A L I) (ho1 : o1 < 40) (ho2 : o2 < 40) (hq1 : okS (sgM A L o1)) (hq2 : okS (sgM A L o2)) (hz : L 4 o1 = sat (cntS (sgM A L o1))) (hc : 1 ≤ cntS (sgM A L o1)) (hli : liS (sgM A L o1) (sgM A L o2) = (eaS (sgM A L o1) (sgM A L o2))) (hc20 : cntS (sgM A L o1) ≤ 20) : ∀ (n9 k : Nat) (b : Bool), k ≤ cntS (sgM A L o1) → cntS (sgM A L o1) + 1 ≤ k + n9 → (b = true → ∀ j, j < k → (posS (sgM A L o2) (valS (sgM A L o1) j)).isSome = true) → (b = false → (eaS (sgM A L o1) (sgM A L o2)) = false) → V p l e (RM 2 0 0) s m args below meth c D B 9 (MQ below (Qi_ D B (fun x f9 => x = bI (liS (sgM A L o1) (sgM A L o2)) ∧ f9 = f)) args s 0 0 (AB B)) 0 0 f (lof [(0, .ref (r 0)), (1, .int (nI o1)), (2, .int (nI o2)), (3, .long (lN (cntS (sgM A L o1)))), (5, .int (bI b)), (6, .int (nI k))]) 40 [] := by
  intro n9
  induction n9 with
  | zero => intro k b h1 h2; omega
  | succ n9 ih =>
    intro k b hk hin hb1 hb0
    by_cases hlt : k < cntS (sgM A L o1)
    · cases b with
      | true =>
        refine v_iload C dX9_liesIn_40 rfl ?_
        refine v_i2l C dX9_liesIn_42 ?_
        refine v_rl (nI_l (by omega)) ?_
        refine v_lload_n C dX9_liesIn_43 rfl rfl ?_
        refine v_lc_ge (tgt := 74) C dX9_liesIn_44 dX9_liesIn_45 (by decide) (fun c_44 => absurd c_44 (fun h9 => by have h8 := (pk_lLE (by omega) (by omega)).mp h9; omega)) (fun c_44 => ?_)
        refine v_iload C dX9_liesIn_48 rfl ?_
        refine v_if_eq (tgt := 74) C dX9_liesIn_50 (by decide) (fun c_50 => absurd c_50 (by decide)) (fun c_50 => ?_)
        refine v_aload_n C dX9_liesIn_53 rfl rfl ?_
        refine v_iload_n C dX9_liesIn_54 rfl rfl ?_
        refine v_aload_n C dX9_liesIn_55 rfl rfl ?_
        refine v_iload_n C dX9_liesIn_56 rfl rfl ?_
        refine v_iload C dX9_liesIn_57 rfl ?_
        refine v_i2l C dX9_liesIn_59 ?_
        refine v_rl (nI_l (by omega)) ?_
        refine v_cl (r_V C (m_numberAt l D B K _ r f0 A L I o1 k hM ho1 hq1 hlt) dX9_liesIn_60 hM.1 rfl g_ml_X9_144 g_im_yX9_numberAt g_se_X9_yX9_numberAt_yX9_numberAt g_in_X9 g_cd_yX9_numberAt (rn_le (by decide)) (by decide) rfl rfl hdn_yX9_numberAt (Nat.le_of_ble_eq_true rfl) ⟨Nat.le_of_ble_eq_true rfl, Nat.le_of_ble_eq_true rfl⟩) (fun r_60 f_60 hp_60 => ?_)
        obtain ⟨rfl, hf9⟩ := hp_60
        have hf9 := hf9.symm
        subst hf9
        refine v_ci (r_V C (m_hasNumber l D B K _ r f0 A L I o2 _ hM ho2 hq2) dX9_liesIn_63 hM.1 rfl g_ml_X9_120 g_im_yX9_hasNumber g_se_X9_yX9_hasNumber_yX9_hasNumber g_in_X9 g_cd_yX9_hasNumber (rn_le (by decide)) (by decide) rfl rfl hdn_yX9_hasNumber (Nat.le_of_ble_eq_true rfl) ⟨Nat.le_of_ble_eq_true rfl, Nat.le_of_ble_eq_true rfl⟩) (fun r_63 f_63 hp_63 => ?_)
        obtain ⟨rfl, hf9⟩ := hp_63
        have hf9 := hf9.symm
        subst hf9
        refine v_istore C dX9_liesIn_66 (by decide) rfl ?_
        refine v_iinc (y := 1) C dX9_liesIn_68 rfl (by decide) (by decide) rfl ?_
        refine v_goto (tgt := 40) C dX9_liesIn_71 (by decide) ?_
        refine v_loc [(0, .ref (r 0)), (1, .int (nI o1)), (2, .int (nI o2)), (3, .long (lN (cntS (sgM A L o1)))), (5, .int (bI (posS (sgM A L o2) (valS (sgM A L o1) k)).isSome)), (6, .int (nI (k + 1)))] (lsub_c rfl (lsub_c rfl (lsub_c rfl (lsub_c rfl (lsub_c rfl (lsub_c (by rw [nI_succ]; rfl) lsub_n)))))) ?_
        refine ih (k + 1) _ hlt (by omega) (fun h9 j hj => ?_) (fun h9 => ?_)
        · by_cases e9 : j = k
          · subst e9; exact h9
          · exact hb1 rfl j (by omega)
        · unfold eaS; rw [range_all_false hlt h9, Bool.and_false]
      | false =>
        refine v_iload C dX9_liesIn_40 rfl ?_
        refine v_i2l C dX9_liesIn_42 ?_
        refine v_rl (nI_l (by omega)) ?_
        refine v_lload_n C dX9_liesIn_43 rfl rfl ?_
        refine v_lc_ge (tgt := 74) C dX9_liesIn_44 dX9_liesIn_45 (by decide) (fun c_44 => absurd c_44 (fun h9 => by have h8 := (pk_lLE (by omega) (by omega)).mp h9; omega)) (fun c_44 => ?_)
        refine v_iload C dX9_liesIn_48 rfl ?_
        refine v_if_eq (tgt := 74) C dX9_liesIn_50 (by decide) (fun c_50 => ?_) (fun c_50 => absurd rfl c_50)
        refine v_iload C dX9_liesIn_74 rfl ?_
        exact v_zret C hr hlk dX9_liesIn_76 (bI_n _) (Nat.le_refl _) (Nat.le_refl _) ⟨by rw [hli, hb0 rfl], rfl⟩
    · have hbe : b = (eaS (sgM A L o1) (sgM A L o2)) := by
        cases b with
        | true => unfold eaS; rw [range_all_true (fun j hj => hb1 rfl j (by omega)), decide_eq_true hc20]; rfl
        | false => exact (hb0 rfl).symm
      refine v_iload C dX9_liesIn_40 rfl ?_
      refine v_i2l C dX9_liesIn_42 ?_
      refine v_rl (nI_l (by omega)) ?_
      refine v_lload_n C dX9_liesIn_43 rfl rfl ?_
      refine v_lc_ge (tgt := 74) C dX9_liesIn_44 dX9_liesIn_45 (by decide) (fun c_44 => ?_) (fun c_44 => absurd ((pk_lLE (by omega) (by omega)).mpr (by omega)) c_44)
      refine v_iload C dX9_liesIn_74 rfl ?_
      exact v_zret C hr hlk dX9_liesIn_76 (bI_n _) (Nat.le_refl _) (Nat.le_refl _) ⟨by rw [hli, hbe], rfl⟩

set_option maxHeartbeats 4000000 in
set_option maxRecDepth 100000 in
theorem L_lies2 {p : Program} {l : Launch} {e : Env} {s : State} {m : MethodId} {args : Array Value} {below : List Frame} {meth : Method} {c : Code} {D : va_G} {B : Nat} {K : Nat → ClassId} (C : Cx p s m args c cX9_liesIn 9 yX9_liesIn.cls D B K) (hr : meth.sig.returnType = (some .boolean)) (hlk : meth.locks = false) (f : St) (r : Nat → Nat) (f0 : St) (A : Nat → Nat → Int32) (L : Nat → Nat → Int64) (I : Nat → Int32) (o1 o2 : Nat) (hM : MC K r f0 f A L I) (ho1 : o1 < 40) (ho2 : o2 < 40) (hq1 : okS (sgM A L o1)) (hq2 : okS (sgM A L o2)) (hz : L 4 o1 = sat (cntS (sgM A L o1))) (hc : 1 ≤ cntS (sgM A L o1)) (hk1 : ¬ A 1 o1 = 2) (hli : liS (sgM A L o1) (sgM A L o2) = rrS (sgM A L o1) (sgM A L o2)) (hv0 : (posS (sgM A L o2) (valS (sgM A L o1) 0)).isSome = true) (hc1 : ¬ cntS (sgM A L o1) = 1) (ba b2 : Int64) (hba : 0 ≤ ba.toInt) (hb2 : 0 < b2.toInt) (hb3 : b2.toInt ≤ 1000000) (hdv : ba.toInt % b2.toInt = 0 ↔ (sgM A L o1).2.2.2.toInt % (sgM A L o2).2.2.2.toInt = 0) :  V p l e (RM 2 0 0) s m args below meth c D B 9 (MQ below (Qi_ D B (fun x f9 => x = bI (liS (sgM A L o1) (sgM A L o2)) ∧ f9 = f)) args s 0 0 (AB B)) 0 0 f (lof [(0, .ref (r 0)), (1, .int (nI o1)), (2, .int (nI o2)), (5, .long ba), (7, .long b2)]) 159 [] := by
  have hne : ¬ b2 = 0 := fun h9 => by rw [l_eq0] at h9; omega
  by_cases hm : ba - ba / b2 * b2 = 0
  · cases hv : (posS (sgM A L o2) (valS (sgM A L o1) (cntS (sgM A L o1) - 1))).isSome with
    | true =>
      refine v_lload C dX9_liesIn_159 rfl ?_
      refine v_lload C dX9_liesIn_161 rfl ?_
      refine v_lrem C dX9_liesIn_163 hne ?_
      refine v_lconst (v := 0) C dX9_liesIn_164 (by decide) ?_
      refine v_lc_ne (tgt := 186) C dX9_liesIn_165 dX9_liesIn_166 (by decide) (fun c_165 => absurd hm c_165) (fun c_165 => ?_)
      refine v_aload_n C dX9_liesIn_169 rfl rfl ?_
      refine v_iload_n C dX9_liesIn_170 rfl rfl ?_
      refine v_aload_n C dX9_liesIn_171 rfl rfl ?_
      refine v_iload_n C dX9_liesIn_172 rfl rfl ?_
      refine v_cl (r_V C (m_lastOf l D B K _ r f0 A L I o1 hM ho1 hq1 hk1 hc) dX9_liesIn_173 hM.1 rfl g_ml_X9_162 g_im_yX9_lastOf g_se_X9_yX9_lastOf_yX9_lastOf g_in_X9 g_cd_yX9_lastOf (rn_le (by decide)) (by decide) rfl rfl hdn_yX9_lastOf (Nat.le_of_ble_eq_true rfl) ⟨Nat.le_of_ble_eq_true rfl, Nat.le_of_ble_eq_true rfl⟩) (fun r_173 f_173 hp_173 => ?_)
      obtain ⟨rfl, hf9⟩ := hp_173
      have hf9 := hf9.symm
      subst hf9
      refine v_ci (r_V C (m_hasNumber l D B K _ r f0 A L I o2 _ hM ho2 hq2) dX9_liesIn_176 hM.1 rfl g_ml_X9_120 g_im_yX9_hasNumber g_se_X9_yX9_hasNumber_yX9_hasNumber g_in_X9 g_cd_yX9_hasNumber (rn_le (by decide)) (by decide) rfl rfl hdn_yX9_hasNumber (Nat.le_of_ble_eq_true rfl) ⟨Nat.le_of_ble_eq_true rfl, Nat.le_of_ble_eq_true rfl⟩) (fun r_176 f_176 hp_176 => ?_)
      obtain ⟨rfl, hf9⟩ := hp_176
      have hf9 := hf9.symm
      subst hf9
      refine v_ri (show bI _ = 1 by rw [hv]; rfl) ?_
      refine v_if_eq (tgt := 186) C dX9_liesIn_179 (by decide) (fun c_179 => absurd c_179 (by decide)) (fun _ => ?_)
      refine v_iconst (v := 1) C dX9_liesIn_182 (by decide) ?_
      refine v_goto (tgt := 187) C dX9_liesIn_183 (by decide) ?_
      exact v_zret C hr hlk dX9_liesIn_187 rfl (Nat.le_refl _) (Nat.le_refl _) ⟨by rw [hli]; unfold rrS; rw [hv0, hv, decide_eq_true (hdv.mp ((lr_0 (by omega) (by omega) (by omega)).mp hm)), Bool.or_true]; rfl, rfl⟩
    | false =>
      refine v_lload C dX9_liesIn_159 rfl ?_
      refine v_lload C dX9_liesIn_161 rfl ?_
      refine v_lrem C dX9_liesIn_163 hne ?_
      refine v_lconst (v := 0) C dX9_liesIn_164 (by decide) ?_
      refine v_lc_ne (tgt := 186) C dX9_liesIn_165 dX9_liesIn_166 (by decide) (fun c_165 => absurd hm c_165) (fun c_165 => ?_)
      refine v_aload_n C dX9_liesIn_169 rfl rfl ?_
      refine v_iload_n C dX9_liesIn_170 rfl rfl ?_
      refine v_aload_n C dX9_liesIn_171 rfl rfl ?_
      refine v_iload_n C dX9_liesIn_172 rfl rfl ?_
      refine v_cl (r_V C (m_lastOf l D B K _ r f0 A L I o1 hM ho1 hq1 hk1 hc) dX9_liesIn_173 hM.1 rfl g_ml_X9_162 g_im_yX9_lastOf g_se_X9_yX9_lastOf_yX9_lastOf g_in_X9 g_cd_yX9_lastOf (rn_le (by decide)) (by decide) rfl rfl hdn_yX9_lastOf (Nat.le_of_ble_eq_true rfl) ⟨Nat.le_of_ble_eq_true rfl, Nat.le_of_ble_eq_true rfl⟩) (fun r_173 f_173 hp_173 => ?_)
      obtain ⟨rfl, hf9⟩ := hp_173
      have hf9 := hf9.symm
      subst hf9
      refine v_ci (r_V C (m_hasNumber l D B K _ r f0 A L I o2 _ hM ho2 hq2) dX9_liesIn_176 hM.1 rfl g_ml_X9_120 g_im_yX9_hasNumber g_se_X9_yX9_hasNumber_yX9_hasNumber g_in_X9 g_cd_yX9_hasNumber (rn_le (by decide)) (by decide) rfl rfl hdn_yX9_hasNumber (Nat.le_of_ble_eq_true rfl) ⟨Nat.le_of_ble_eq_true rfl, Nat.le_of_ble_eq_true rfl⟩) (fun r_176 f_176 hp_176 => ?_)
      obtain ⟨rfl, hf9⟩ := hp_176
      have hf9 := hf9.symm
      subst hf9
      refine v_ri (show bI _ = 0 by rw [hv]; rfl) ?_
      refine v_if_eq (tgt := 186) C dX9_liesIn_179 (by decide) (fun _ => ?_) (fun c_179 => absurd c_179 (by decide))
      refine v_iconst (v := 0) C dX9_liesIn_186 (by decide) ?_
      exact v_zret C hr hlk dX9_liesIn_187 rfl (Nat.le_refl _) (Nat.le_refl _) ⟨by rw [hli]; unfold rrS; rw [hv0, hv]; rfl, rfl⟩
  · refine v_lload C dX9_liesIn_159 rfl ?_
    refine v_lload C dX9_liesIn_161 rfl ?_
    refine v_lrem C dX9_liesIn_163 hne ?_
    refine v_lconst (v := 0) C dX9_liesIn_164 (by decide) ?_
    refine v_lc_ne (tgt := 186) C dX9_liesIn_165 dX9_liesIn_166 (by decide) (fun c_165 => ?_) (fun c_165 => absurd c_165 hm)
    refine v_iconst (v := 0) C dX9_liesIn_186 (by decide) ?_
    exact v_zret C hr hlk dX9_liesIn_187 rfl (Nat.le_refl _) (Nat.le_refl _) ⟨by rw [hli]; unfold rrS; rw [decide_eq_false hc1, decide_eq_false (fun h9 => hm ((lr_0 (by omega) (by omega) (by omega)).mpr (hdv.mpr h9))), Bool.or_false, Bool.and_false, Bool.and_false]; rfl, rfl⟩

theorem in_20 {n : Nat} (h : n ≤ 20) : inM (lN n) 0 20 = 1 := by
  unfold inM
  rw [if_neg (fun h9 => by have h8 := (pk_lLT (b := 0) (show n < 2 ^ 63 by omega) (by omega)).mp h9; omega), if_neg (fun h9 => by have h8 := (pk_lLT (a := 20) (by omega) (show n < 2 ^ 63 by omega)).mp h9; omega)]
theorem in_big {n : Nat} (h : ¬ n ≤ 20) : inM (sat n) 0 20 = 0 := by
  rw [in_0, sat_toInt]
  have z : (0 : Int64).toInt = 0 := rfl
  have z2 : (20 : Int64).toInt = 20 := rfl
  rw [z, z2]
  split <;> omega
set_option maxHeartbeats 4000000 in
set_option maxRecDepth 100000 in
theorem m_liesIn (l : Launch) (D : va_G) (B : Nat) (K : Nat → ClassId) (f : St) (r : Nat → Nat) (f0 : St) (A : Nat → Nat → Int32) (L : Nat → Nat → Int64) (I : Nat → Int32) (o1 o2 : Nat) (hM : MC K r f0 f A L I) (ho1 : o1 < 40) (ho2 : o2 < 40) (hq1 : okS (sgM A L o1)) (hq2 : okS (sgM A L o2)) (hz : L 4 o1 = sat (cntS (sgM A L o1))) (hc : 1 ≤ cntS (sgM A L o1)) : Kc l D B K yX9_liesIn cX9_liesIn 9 ((some .boolean)) 2 0 0 [.ref (r 0), .int (nI o1), .int (nI o2)] f (Qi_ D B (fun x f9 => x = bI (liS (sgM A L o1) (sgM A L o2)) ∧ f9 = f)) := by
  refine v_met [(0, .ref (r 0)), (1, .int (nI o1)), (2, .int (nI o2))] (by decide) (Nat.le_of_ble_eq_true rfl) rfl ?_
  intro p e s m args below meth c C hr hlk hin
  by_cases hk1 : A 1 o1 = 2
  · have hli : liS (sgM A L o1) (sgM A L o2) = (eaS (sgM A L o1) (sgM A L o2)) := if_pos (by first | exact Or.inl hk1 | exact Or.inr hk2)
    by_cases hc20 : cntS (sgM A L o1) ≤ 20
    · refine v_aload_n C dX9_liesIn_0 rfl rfl ?_
      refine v_get C dX9_liesIn_1 4 hM.1 rfl in_X9 (by decide) g_fl_X9_19 (fun _ h9 => h9) rfl ?_
      refine v_iload_n C dX9_liesIn_4 rfl rfl ?_
      refine m_lld C hM dX9_liesIn_5 4 o1 (by decide) (show _ < 40 by omega) rfl ?_
      refine v_rl (hz.trans (sat_lt (by omega))) ?_
      refine v_lstore_n C dX9_liesIn_6 rfl (by decide) rfl ?_
      refine v_aload_n C dX9_liesIn_7 rfl rfl ?_
      refine v_get C dX9_liesIn_8 1 hM.1 rfl in_X9 (by decide) g_fl_X9_7 (fun _ h9 => h9) rfl ?_
      refine v_iload_n C dX9_liesIn_11 rfl rfl ?_
      refine m_ild C hM dX9_liesIn_12 1 o1 (by decide) (show _ < 40 by omega) rfl ?_
      refine v_iconst (v := 2) C dX9_liesIn_13 (by decide) ?_
      refine v_icmp_eq (tgt := 27) C dX9_liesIn_14 (by decide) (fun c_14 => ?_) (fun c_14 => absurd hk1 c_14)
      refine v_lload_n C dX9_liesIn_27 rfl rfl ?_
      refine v_lconst (v := 0) C dX9_liesIn_28 (by decide) ?_
      refine v_ldc2 C dX9_liesIn_29 g_kl_X9_88 ?_
      refine v_ci (r_S C (m_in l D B K _ _ _ _) dX9_liesIn_32 g_ml_X9_58 g_st_yX9_in g_in_X9 g_cd_yX9_in (rn_le (by decide)) (by decide) rfl hdn_yX9_in (Nat.le_of_ble_eq_true rfl) ⟨Nat.le_of_ble_eq_true rfl, Nat.le_of_ble_eq_true rfl⟩) (fun r_32 f_32 hp_32 => ?_)
      obtain ⟨rfl, hf9⟩ := hp_32
      have hf9 := hf9.symm
      subst hf9
      refine v_ri (show inM (lN (cntS (sgM A L o1))) 0 20 = 1 from in_20 hc20) ?_
      refine v_istore C dX9_liesIn_35 (by decide) rfl ?_
      refine v_iconst (v := 0) C dX9_liesIn_37 (by decide) ?_
      refine v_istore C dX9_liesIn_38 (by decide) rfl ?_
      refine v_loc [(0, .ref (r 0)), (1, .int (nI o1)), (2, .int (nI o2)), (3, .long (lN (cntS (sgM A L o1)))), (5, .int (bI true)), (6, .int (nI 0))] (lsub_c rfl (lsub_c rfl (lsub_c rfl (lsub_c rfl (lsub_c rfl (lsub_c rfl lsub_n)))))) ?_
      exact L_lies C hr hlk f r f0 A L I o1 o2 hM ho1 ho2 hq1 hq2 hz hc hli hc20 (cntS (sgM A L o1) + 1) 0 true (Nat.zero_le _) (by omega) (fun _ j hj => by omega) (fun h9 => by cases h9)
    · have hef : (eaS (sgM A L o1) (sgM A L o2)) = false := by unfold eaS; rw [decide_eq_false hc20]; rfl
      by_cases hbig : cntS (sgM A L o1) < 9223372036854775808
      · refine v_aload_n C dX9_liesIn_0 rfl rfl ?_
        refine v_get C dX9_liesIn_1 4 hM.1 rfl in_X9 (by decide) g_fl_X9_19 (fun _ h9 => h9) rfl ?_
        refine v_iload_n C dX9_liesIn_4 rfl rfl ?_
        refine m_lld C hM dX9_liesIn_5 4 o1 (by decide) (show _ < 40 by omega) rfl ?_
        refine v_rl hz ?_
        refine v_lstore_n C dX9_liesIn_6 rfl (by decide) rfl ?_
        refine v_aload_n C dX9_liesIn_7 rfl rfl ?_
        refine v_get C dX9_liesIn_8 1 hM.1 rfl in_X9 (by decide) g_fl_X9_7 (fun _ h9 => h9) rfl ?_
        refine v_iload_n C dX9_liesIn_11 rfl rfl ?_
        refine m_ild C hM dX9_liesIn_12 1 o1 (by decide) (show _ < 40 by omega) rfl ?_
        refine v_iconst (v := 2) C dX9_liesIn_13 (by decide) ?_
        refine v_icmp_eq (tgt := 27) C dX9_liesIn_14 (by decide) (fun c_14 => ?_) (fun c_14 => absurd hk1 c_14)
        refine v_lload_n C dX9_liesIn_27 rfl rfl ?_
        refine v_lconst (v := 0) C dX9_liesIn_28 (by decide) ?_
        refine v_ldc2 C dX9_liesIn_29 g_kl_X9_88 ?_
        refine v_ci (r_S C (m_in l D B K _ _ _ _) dX9_liesIn_32 g_ml_X9_58 g_st_yX9_in g_in_X9 g_cd_yX9_in (rn_le (by decide)) (by decide) rfl hdn_yX9_in (Nat.le_of_ble_eq_true rfl) ⟨Nat.le_of_ble_eq_true rfl, Nat.le_of_ble_eq_true rfl⟩) (fun r_32 f_32 hp_32 => ?_)
        obtain ⟨rfl, hf9⟩ := hp_32
        have hf9 := hf9.symm
        subst hf9
        refine v_ri (show inM (sat (cntS (sgM A L o1))) 0 20 = 0 from in_big hc20) ?_
        refine v_istore C dX9_liesIn_35 (by decide) rfl ?_
        refine v_iconst (v := 0) C dX9_liesIn_37 (by decide) ?_
        refine v_istore C dX9_liesIn_38 (by decide) rfl ?_
        refine v_iload C dX9_liesIn_40 rfl ?_
        refine v_i2l C dX9_liesIn_42 ?_
        refine v_lload_n C dX9_liesIn_43 rfl rfl ?_
        refine v_lc_ge (tgt := 74) C dX9_liesIn_44 dX9_liesIn_45 (by decide) (fun c_44 => absurd c_44 (fun h9 => by rw [l_le, sat_toInt, if_pos hbig] at h9; have z : ((0 : Int32).toInt64).toInt = 0 := rfl; omega)) (fun c_44 => ?_)
        refine v_iload C dX9_liesIn_48 rfl ?_
        refine v_if_eq (tgt := 74) C dX9_liesIn_50 (by decide) (fun _ => ?_) (fun c_50 => absurd c_50 (by decide))
        refine v_iload C dX9_liesIn_74 rfl ?_
        exact v_zret C hr hlk dX9_liesIn_76 rfl (Nat.le_refl _) (Nat.le_refl _) ⟨by rw [hli, hef]; rfl, rfl⟩
      · refine v_aload_n C dX9_liesIn_0 rfl rfl ?_
        refine v_get C dX9_liesIn_1 4 hM.1 rfl in_X9 (by decide) g_fl_X9_19 (fun _ h9 => h9) rfl ?_
        refine v_iload_n C dX9_liesIn_4 rfl rfl ?_
        refine m_lld C hM dX9_liesIn_5 4 o1 (by decide) (show _ < 40 by omega) rfl ?_
        refine v_rl hz ?_
        refine v_lstore_n C dX9_liesIn_6 rfl (by decide) rfl ?_
        refine v_aload_n C dX9_liesIn_7 rfl rfl ?_
        refine v_get C dX9_liesIn_8 1 hM.1 rfl in_X9 (by decide) g_fl_X9_7 (fun _ h9 => h9) rfl ?_
        refine v_iload_n C dX9_liesIn_11 rfl rfl ?_
        refine m_ild C hM dX9_liesIn_12 1 o1 (by decide) (show _ < 40 by omega) rfl ?_
        refine v_iconst (v := 2) C dX9_liesIn_13 (by decide) ?_
        refine v_icmp_eq (tgt := 27) C dX9_liesIn_14 (by decide) (fun c_14 => ?_) (fun c_14 => absurd hk1 c_14)
        refine v_lload_n C dX9_liesIn_27 rfl rfl ?_
        refine v_lconst (v := 0) C dX9_liesIn_28 (by decide) ?_
        refine v_ldc2 C dX9_liesIn_29 g_kl_X9_88 ?_
        refine v_ci (r_S C (m_in l D B K _ _ _ _) dX9_liesIn_32 g_ml_X9_58 g_st_yX9_in g_in_X9 g_cd_yX9_in (rn_le (by decide)) (by decide) rfl hdn_yX9_in (Nat.le_of_ble_eq_true rfl) ⟨Nat.le_of_ble_eq_true rfl, Nat.le_of_ble_eq_true rfl⟩) (fun r_32 f_32 hp_32 => ?_)
        obtain ⟨rfl, hf9⟩ := hp_32
        have hf9 := hf9.symm
        subst hf9
        refine v_ri (show inM (sat (cntS (sgM A L o1))) 0 20 = 0 from in_big hc20) ?_
        refine v_istore C dX9_liesIn_35 (by decide) rfl ?_
        refine v_iconst (v := 0) C dX9_liesIn_37 (by decide) ?_
        refine v_istore C dX9_liesIn_38 (by decide) rfl ?_
        refine v_iload C dX9_liesIn_40 rfl ?_
        refine v_i2l C dX9_liesIn_42 ?_
        refine v_lload_n C dX9_liesIn_43 rfl rfl ?_
        refine v_lc_ge (tgt := 74) C dX9_liesIn_44 dX9_liesIn_45 (by decide) (fun c_44 => ?_) (fun c_44 => absurd (by rw [l_le, sat_toInt, if_neg hbig]; decide) c_44)
        refine v_iload C dX9_liesIn_74 rfl ?_
        exact v_zret C hr hlk dX9_liesIn_76 rfl (Nat.le_refl _) (Nat.le_refl _) ⟨by rw [hli, hef]; rfl, rfl⟩
  · by_cases hk2 : A 1 o2 = 2
    · have hli : liS (sgM A L o1) (sgM A L o2) = (eaS (sgM A L o1) (sgM A L o2)) := if_pos (by first | exact Or.inl hk1 | exact Or.inr hk2)
      by_cases hc20 : cntS (sgM A L o1) ≤ 20
      · refine v_aload_n C dX9_liesIn_0 rfl rfl ?_
        refine v_get C dX9_liesIn_1 4 hM.1 rfl in_X9 (by decide) g_fl_X9_19 (fun _ h9 => h9) rfl ?_
        refine v_iload_n C dX9_liesIn_4 rfl rfl ?_
        refine m_lld C hM dX9_liesIn_5 4 o1 (by decide) (show _ < 40 by omega) rfl ?_
        refine v_rl (hz.trans (sat_lt (by omega))) ?_
        refine v_lstore_n C dX9_liesIn_6 rfl (by decide) rfl ?_
        refine v_aload_n C dX9_liesIn_7 rfl rfl ?_
        refine v_get C dX9_liesIn_8 1 hM.1 rfl in_X9 (by decide) g_fl_X9_7 (fun _ h9 => h9) rfl ?_
        refine v_iload_n C dX9_liesIn_11 rfl rfl ?_
        refine m_ild C hM dX9_liesIn_12 1 o1 (by decide) (show _ < 40 by omega) rfl ?_
        refine v_iconst (v := 2) C dX9_liesIn_13 (by decide) ?_
        refine v_icmp_eq (tgt := 27) C dX9_liesIn_14 (by decide) (fun c_14 => absurd c_14 hk1) (fun c_14 => ?_)
        refine v_aload_n C dX9_liesIn_17 rfl rfl ?_
        refine v_get C dX9_liesIn_18 1 hM.1 rfl in_X9 (by decide) g_fl_X9_7 (fun _ h9 => h9) rfl ?_
        refine v_iload_n C dX9_liesIn_21 rfl rfl ?_
        refine m_ild C hM dX9_liesIn_22 1 o2 (by decide) (show _ < 40 by omega) rfl ?_
        refine v_iconst (v := 2) C dX9_liesIn_23 (by decide) ?_
        refine v_icmp_ne (tgt := 77) C dX9_liesIn_24 (by decide) (fun c_24 => absurd hk2 c_24) (fun c_24 => ?_)
        refine v_lload_n C dX9_liesIn_27 rfl rfl ?_
        refine v_lconst (v := 0) C dX9_liesIn_28 (by decide) ?_
        refine v_ldc2 C dX9_liesIn_29 g_kl_X9_88 ?_
        refine v_ci (r_S C (m_in l D B K _ _ _ _) dX9_liesIn_32 g_ml_X9_58 g_st_yX9_in g_in_X9 g_cd_yX9_in (rn_le (by decide)) (by decide) rfl hdn_yX9_in (Nat.le_of_ble_eq_true rfl) ⟨Nat.le_of_ble_eq_true rfl, Nat.le_of_ble_eq_true rfl⟩) (fun r_32 f_32 hp_32 => ?_)
        obtain ⟨rfl, hf9⟩ := hp_32
        have hf9 := hf9.symm
        subst hf9
        refine v_ri (show inM (lN (cntS (sgM A L o1))) 0 20 = 1 from in_20 hc20) ?_
        refine v_istore C dX9_liesIn_35 (by decide) rfl ?_
        refine v_iconst (v := 0) C dX9_liesIn_37 (by decide) ?_
        refine v_istore C dX9_liesIn_38 (by decide) rfl ?_
        refine v_loc [(0, .ref (r 0)), (1, .int (nI o1)), (2, .int (nI o2)), (3, .long (lN (cntS (sgM A L o1)))), (5, .int (bI true)), (6, .int (nI 0))] (lsub_c rfl (lsub_c rfl (lsub_c rfl (lsub_c rfl (lsub_c rfl (lsub_c rfl lsub_n)))))) ?_
        exact L_lies C hr hlk f r f0 A L I o1 o2 hM ho1 ho2 hq1 hq2 hz hc hli hc20 (cntS (sgM A L o1) + 1) 0 true (Nat.zero_le _) (by omega) (fun _ j hj => by omega) (fun h9 => by cases h9)
      · have hef : (eaS (sgM A L o1) (sgM A L o2)) = false := by unfold eaS; rw [decide_eq_false hc20]; rfl
        by_cases hbig : cntS (sgM A L o1) < 9223372036854775808
        · refine v_aload_n C dX9_liesIn_0 rfl rfl ?_
          refine v_get C dX9_liesIn_1 4 hM.1 rfl in_X9 (by decide) g_fl_X9_19 (fun _ h9 => h9) rfl ?_
          refine v_iload_n C dX9_liesIn_4 rfl rfl ?_
          refine m_lld C hM dX9_liesIn_5 4 o1 (by decide) (show _ < 40 by omega) rfl ?_
          refine v_rl hz ?_
          refine v_lstore_n C dX9_liesIn_6 rfl (by decide) rfl ?_
          refine v_aload_n C dX9_liesIn_7 rfl rfl ?_
          refine v_get C dX9_liesIn_8 1 hM.1 rfl in_X9 (by decide) g_fl_X9_7 (fun _ h9 => h9) rfl ?_
          refine v_iload_n C dX9_liesIn_11 rfl rfl ?_
          refine m_ild C hM dX9_liesIn_12 1 o1 (by decide) (show _ < 40 by omega) rfl ?_
          refine v_iconst (v := 2) C dX9_liesIn_13 (by decide) ?_
          refine v_icmp_eq (tgt := 27) C dX9_liesIn_14 (by decide) (fun c_14 => absurd c_14 hk1) (fun c_14 => ?_)
          refine v_aload_n C dX9_liesIn_17 rfl rfl ?_
          refine v_get C dX9_liesIn_18 1 hM.1 rfl in_X9 (by decide) g_fl_X9_7 (fun _ h9 => h9) rfl ?_
          refine v_iload_n C dX9_liesIn_21 rfl rfl ?_
          refine m_ild C hM dX9_liesIn_22 1 o2 (by decide) (show _ < 40 by omega) rfl ?_
          refine v_iconst (v := 2) C dX9_liesIn_23 (by decide) ?_
          refine v_icmp_ne (tgt := 77) C dX9_liesIn_24 (by decide) (fun c_24 => absurd hk2 c_24) (fun c_24 => ?_)
          refine v_lload_n C dX9_liesIn_27 rfl rfl ?_
          refine v_lconst (v := 0) C dX9_liesIn_28 (by decide) ?_
          refine v_ldc2 C dX9_liesIn_29 g_kl_X9_88 ?_
          refine v_ci (r_S C (m_in l D B K _ _ _ _) dX9_liesIn_32 g_ml_X9_58 g_st_yX9_in g_in_X9 g_cd_yX9_in (rn_le (by decide)) (by decide) rfl hdn_yX9_in (Nat.le_of_ble_eq_true rfl) ⟨Nat.le_of_ble_eq_true rfl, Nat.le_of_ble_eq_true rfl⟩) (fun r_32 f_32 hp_32 => ?_)
          obtain ⟨rfl, hf9⟩ := hp_32
          have hf9 := hf9.symm
          subst hf9
          refine v_ri (show inM (sat (cntS (sgM A L o1))) 0 20 = 0 from in_big hc20) ?_
          refine v_istore C dX9_liesIn_35 (by decide) rfl ?_
          refine v_iconst (v := 0) C dX9_liesIn_37 (by decide) ?_
          refine v_istore C dX9_liesIn_38 (by decide) rfl ?_
          refine v_iload C dX9_liesIn_40 rfl ?_
          refine v_i2l C dX9_liesIn_42 ?_
          refine v_lload_n C dX9_liesIn_43 rfl rfl ?_
          refine v_lc_ge (tgt := 74) C dX9_liesIn_44 dX9_liesIn_45 (by decide) (fun c_44 => absurd c_44 (fun h9 => by rw [l_le, sat_toInt, if_pos hbig] at h9; have z : ((0 : Int32).toInt64).toInt = 0 := rfl; omega)) (fun c_44 => ?_)
          refine v_iload C dX9_liesIn_48 rfl ?_
          refine v_if_eq (tgt := 74) C dX9_liesIn_50 (by decide) (fun _ => ?_) (fun c_50 => absurd c_50 (by decide))
          refine v_iload C dX9_liesIn_74 rfl ?_
          exact v_zret C hr hlk dX9_liesIn_76 rfl (Nat.le_refl _) (Nat.le_refl _) ⟨by rw [hli, hef]; rfl, rfl⟩
        · refine v_aload_n C dX9_liesIn_0 rfl rfl ?_
          refine v_get C dX9_liesIn_1 4 hM.1 rfl in_X9 (by decide) g_fl_X9_19 (fun _ h9 => h9) rfl ?_
          refine v_iload_n C dX9_liesIn_4 rfl rfl ?_
          refine m_lld C hM dX9_liesIn_5 4 o1 (by decide) (show _ < 40 by omega) rfl ?_
          refine v_rl hz ?_
          refine v_lstore_n C dX9_liesIn_6 rfl (by decide) rfl ?_
          refine v_aload_n C dX9_liesIn_7 rfl rfl ?_
          refine v_get C dX9_liesIn_8 1 hM.1 rfl in_X9 (by decide) g_fl_X9_7 (fun _ h9 => h9) rfl ?_
          refine v_iload_n C dX9_liesIn_11 rfl rfl ?_
          refine m_ild C hM dX9_liesIn_12 1 o1 (by decide) (show _ < 40 by omega) rfl ?_
          refine v_iconst (v := 2) C dX9_liesIn_13 (by decide) ?_
          refine v_icmp_eq (tgt := 27) C dX9_liesIn_14 (by decide) (fun c_14 => absurd c_14 hk1) (fun c_14 => ?_)
          refine v_aload_n C dX9_liesIn_17 rfl rfl ?_
          refine v_get C dX9_liesIn_18 1 hM.1 rfl in_X9 (by decide) g_fl_X9_7 (fun _ h9 => h9) rfl ?_
          refine v_iload_n C dX9_liesIn_21 rfl rfl ?_
          refine m_ild C hM dX9_liesIn_22 1 o2 (by decide) (show _ < 40 by omega) rfl ?_
          refine v_iconst (v := 2) C dX9_liesIn_23 (by decide) ?_
          refine v_icmp_ne (tgt := 77) C dX9_liesIn_24 (by decide) (fun c_24 => absurd hk2 c_24) (fun c_24 => ?_)
          refine v_lload_n C dX9_liesIn_27 rfl rfl ?_
          refine v_lconst (v := 0) C dX9_liesIn_28 (by decide) ?_
          refine v_ldc2 C dX9_liesIn_29 g_kl_X9_88 ?_
          refine v_ci (r_S C (m_in l D B K _ _ _ _) dX9_liesIn_32 g_ml_X9_58 g_st_yX9_in g_in_X9 g_cd_yX9_in (rn_le (by decide)) (by decide) rfl hdn_yX9_in (Nat.le_of_ble_eq_true rfl) ⟨Nat.le_of_ble_eq_true rfl, Nat.le_of_ble_eq_true rfl⟩) (fun r_32 f_32 hp_32 => ?_)
          obtain ⟨rfl, hf9⟩ := hp_32
          have hf9 := hf9.symm
          subst hf9
          refine v_ri (show inM (sat (cntS (sgM A L o1))) 0 20 = 0 from in_big hc20) ?_
          refine v_istore C dX9_liesIn_35 (by decide) rfl ?_
          refine v_iconst (v := 0) C dX9_liesIn_37 (by decide) ?_
          refine v_istore C dX9_liesIn_38 (by decide) rfl ?_
          refine v_iload C dX9_liesIn_40 rfl ?_
          refine v_i2l C dX9_liesIn_42 ?_
          refine v_lload_n C dX9_liesIn_43 rfl rfl ?_
          refine v_lc_ge (tgt := 74) C dX9_liesIn_44 dX9_liesIn_45 (by decide) (fun c_44 => ?_) (fun c_44 => absurd (by rw [l_le, sat_toInt, if_neg hbig]; decide) c_44)
          refine v_iload C dX9_liesIn_74 rfl ?_
          exact v_zret C hr hlk dX9_liesIn_76 rfl (Nat.le_refl _) (Nat.le_refl _) ⟨by rw [hli, hef]; rfl, rfl⟩
    · have hli : liS (sgM A L o1) (sgM A L o2) = rrS (sgM A L o1) (sgM A L o2) := if_neg (fun h9 => h9.elim hk1 hk2)
      have hv00 : valS (sgM A L o1) 0 = L 5 o1 := va0 hk1
      cases hv0 : (posS (sgM A L o2) (valS (sgM A L o1) 0)).isSome with
      | false =>
        refine v_aload_n C dX9_liesIn_0 rfl rfl ?_
        refine v_get C dX9_liesIn_1 4 hM.1 rfl in_X9 (by decide) g_fl_X9_19 (fun _ h9 => h9) rfl ?_
        refine v_iload_n C dX9_liesIn_4 rfl rfl ?_
        refine m_lld C hM dX9_liesIn_5 4 o1 (by decide) (show _ < 40 by omega) rfl ?_
        refine v_rl hz ?_
        refine v_lstore_n C dX9_liesIn_6 rfl (by decide) rfl ?_
        refine v_aload_n C dX9_liesIn_7 rfl rfl ?_
        refine v_get C dX9_liesIn_8 1 hM.1 rfl in_X9 (by decide) g_fl_X9_7 (fun _ h9 => h9) rfl ?_
        refine v_iload_n C dX9_liesIn_11 rfl rfl ?_
        refine m_ild C hM dX9_liesIn_12 1 o1 (by decide) (show _ < 40 by omega) rfl ?_
        refine v_iconst (v := 2) C dX9_liesIn_13 (by decide) ?_
        refine v_icmp_eq (tgt := 27) C dX9_liesIn_14 (by decide) (fun c_14 => absurd c_14 hk1) (fun c_14 => ?_)
        refine v_aload_n C dX9_liesIn_17 rfl rfl ?_
        refine v_get C dX9_liesIn_18 1 hM.1 rfl in_X9 (by decide) g_fl_X9_7 (fun _ h9 => h9) rfl ?_
        refine v_iload_n C dX9_liesIn_21 rfl rfl ?_
        refine m_ild C hM dX9_liesIn_22 1 o2 (by decide) (show _ < 40 by omega) rfl ?_
        refine v_iconst (v := 2) C dX9_liesIn_23 (by decide) ?_
        refine v_icmp_ne (tgt := 77) C dX9_liesIn_24 (by decide) (fun c_24 => ?_) (fun c_24 => absurd c_24 hk2)
        refine v_aload_n C dX9_liesIn_77 rfl rfl ?_
        refine v_iload_n C dX9_liesIn_78 rfl rfl ?_
        refine v_aload_n C dX9_liesIn_79 rfl rfl ?_
        refine v_get C dX9_liesIn_80 5 hM.1 rfl in_X9 (by decide) g_fl_X9_23 (fun _ h9 => h9) rfl ?_
        refine v_iload_n C dX9_liesIn_83 rfl rfl ?_
        refine m_lld C hM dX9_liesIn_84 5 o1 (by decide) (show _ < 40 by omega) rfl ?_
        refine v_ci (r_V C (m_hasNumber l D B K _ r f0 A L I o2 _ hM ho2 hq2) dX9_liesIn_85 hM.1 rfl g_ml_X9_120 g_im_yX9_hasNumber g_se_X9_yX9_hasNumber_yX9_hasNumber g_in_X9 g_cd_yX9_hasNumber (rn_le (by decide)) (by decide) rfl rfl hdn_yX9_hasNumber (Nat.le_of_ble_eq_true rfl) ⟨Nat.le_of_ble_eq_true rfl, Nat.le_of_ble_eq_true rfl⟩) (fun r_85 f_85 hp_85 => ?_)
        obtain ⟨rfl, hf9⟩ := hp_85
        have hf9 := hf9.symm
        subst hf9
        refine v_ri (show bI (posS (sgM A L o2) (L 5 o1)).isSome = 0 by rw [← hv00, hv0]; rfl) ?_
        refine v_if_ne (tgt := 93) C dX9_liesIn_88 (by decide) (fun c_88 => absurd c_88 (by decide)) (fun _ => ?_)
        refine v_iconst (v := 0) C dX9_liesIn_91 (by decide) ?_
        exact v_zret C hr hlk dX9_liesIn_92 rfl (Nat.le_refl _) (Nat.le_refl _) ⟨by rw [hli]; unfold rrS; rw [hv0]; rfl, rfl⟩
      | true =>
        by_cases hc1 : cntS (sgM A L o1) = 1
        · refine v_aload_n C dX9_liesIn_0 rfl rfl ?_
          refine v_get C dX9_liesIn_1 4 hM.1 rfl in_X9 (by decide) g_fl_X9_19 (fun _ h9 => h9) rfl ?_
          refine v_iload_n C dX9_liesIn_4 rfl rfl ?_
          refine m_lld C hM dX9_liesIn_5 4 o1 (by decide) (show _ < 40 by omega) rfl ?_
          refine v_rl hz ?_
          refine v_lstore_n C dX9_liesIn_6 rfl (by decide) rfl ?_
          refine v_aload_n C dX9_liesIn_7 rfl rfl ?_
          refine v_get C dX9_liesIn_8 1 hM.1 rfl in_X9 (by decide) g_fl_X9_7 (fun _ h9 => h9) rfl ?_
          refine v_iload_n C dX9_liesIn_11 rfl rfl ?_
          refine m_ild C hM dX9_liesIn_12 1 o1 (by decide) (show _ < 40 by omega) rfl ?_
          refine v_iconst (v := 2) C dX9_liesIn_13 (by decide) ?_
          refine v_icmp_eq (tgt := 27) C dX9_liesIn_14 (by decide) (fun c_14 => absurd c_14 hk1) (fun c_14 => ?_)
          refine v_aload_n C dX9_liesIn_17 rfl rfl ?_
          refine v_get C dX9_liesIn_18 1 hM.1 rfl in_X9 (by decide) g_fl_X9_7 (fun _ h9 => h9) rfl ?_
          refine v_iload_n C dX9_liesIn_21 rfl rfl ?_
          refine m_ild C hM dX9_liesIn_22 1 o2 (by decide) (show _ < 40 by omega) rfl ?_
          refine v_iconst (v := 2) C dX9_liesIn_23 (by decide) ?_
          refine v_icmp_ne (tgt := 77) C dX9_liesIn_24 (by decide) (fun c_24 => ?_) (fun c_24 => absurd c_24 hk2)
          refine v_aload_n C dX9_liesIn_77 rfl rfl ?_
          refine v_iload_n C dX9_liesIn_78 rfl rfl ?_
          refine v_aload_n C dX9_liesIn_79 rfl rfl ?_
          refine v_get C dX9_liesIn_80 5 hM.1 rfl in_X9 (by decide) g_fl_X9_23 (fun _ h9 => h9) rfl ?_
          refine v_iload_n C dX9_liesIn_83 rfl rfl ?_
          refine m_lld C hM dX9_liesIn_84 5 o1 (by decide) (show _ < 40 by omega) rfl ?_
          refine v_ci (r_V C (m_hasNumber l D B K _ r f0 A L I o2 _ hM ho2 hq2) dX9_liesIn_85 hM.1 rfl g_ml_X9_120 g_im_yX9_hasNumber g_se_X9_yX9_hasNumber_yX9_hasNumber g_in_X9 g_cd_yX9_hasNumber (rn_le (by decide)) (by decide) rfl rfl hdn_yX9_hasNumber (Nat.le_of_ble_eq_true rfl) ⟨Nat.le_of_ble_eq_true rfl, Nat.le_of_ble_eq_true rfl⟩) (fun r_85 f_85 hp_85 => ?_)
          obtain ⟨rfl, hf9⟩ := hp_85
          have hf9 := hf9.symm
          subst hf9
          refine v_ri (show bI (posS (sgM A L o2) (L 5 o1)).isSome = 1 by rw [← hv00, hv0]; rfl) ?_
          refine v_if_ne (tgt := 93) C dX9_liesIn_88 (by decide) (fun _ => ?_) (fun c_88 => absurd c_88 (by decide))
          refine v_lload_n C dX9_liesIn_93 rfl rfl ?_
          refine v_lconst (v := 1) C dX9_liesIn_94 (by decide) ?_
          refine v_lc_ne (tgt := 101) C dX9_liesIn_95 dX9_liesIn_96 (by decide) (fun c_95 => absurd (by rw [hc1]; rfl) c_95) (fun c_95 => ?_)
          refine v_iconst (v := 1) C dX9_liesIn_99 (by decide) ?_
          exact v_zret C hr hlk dX9_liesIn_100 rfl (Nat.le_refl _) (Nat.le_refl _) ⟨by rw [hli]; unfold rrS; rw [hc1, hv0]; rfl, rfl⟩
        · obtain ⟨u1, u2, u3⟩ := hq1.2 hk1
          obtain ⟨v1, v2, v3⟩ := hq2.2 hk2
          simp only [sgM] at u1 u2 u3 v1 v2 v3
          by_cases hs1 : A 7 o1 ≤ 0
          · have hs1b := up_neg hs1
            by_cases hs2 : A 7 o2 ≤ 0
            · have hs2b := up_neg hs2
              have ea := lneg_toInt (x := A 7 o1) (by omega) (by omega)
              have eb := lneg_toInt (x := A 7 o2) (by omega) (by omega)
              refine v_aload_n C dX9_liesIn_0 rfl rfl ?_
              refine v_get C dX9_liesIn_1 4 hM.1 rfl in_X9 (by decide) g_fl_X9_19 (fun _ h9 => h9) rfl ?_
              refine v_iload_n C dX9_liesIn_4 rfl rfl ?_
              refine m_lld C hM dX9_liesIn_5 4 o1 (by decide) (show _ < 40 by omega) rfl ?_
              refine v_rl hz ?_
              refine v_lstore_n C dX9_liesIn_6 rfl (by decide) rfl ?_
              refine v_aload_n C dX9_liesIn_7 rfl rfl ?_
              refine v_get C dX9_liesIn_8 1 hM.1 rfl in_X9 (by decide) g_fl_X9_7 (fun _ h9 => h9) rfl ?_
              refine v_iload_n C dX9_liesIn_11 rfl rfl ?_
              refine m_ild C hM dX9_liesIn_12 1 o1 (by decide) (show _ < 40 by omega) rfl ?_
              refine v_iconst (v := 2) C dX9_liesIn_13 (by decide) ?_
              refine v_icmp_eq (tgt := 27) C dX9_liesIn_14 (by decide) (fun c_14 => absurd c_14 hk1) (fun c_14 => ?_)
              refine v_aload_n C dX9_liesIn_17 rfl rfl ?_
              refine v_get C dX9_liesIn_18 1 hM.1 rfl in_X9 (by decide) g_fl_X9_7 (fun _ h9 => h9) rfl ?_
              refine v_iload_n C dX9_liesIn_21 rfl rfl ?_
              refine m_ild C hM dX9_liesIn_22 1 o2 (by decide) (show _ < 40 by omega) rfl ?_
              refine v_iconst (v := 2) C dX9_liesIn_23 (by decide) ?_
              refine v_icmp_ne (tgt := 77) C dX9_liesIn_24 (by decide) (fun c_24 => ?_) (fun c_24 => absurd c_24 hk2)
              refine v_aload_n C dX9_liesIn_77 rfl rfl ?_
              refine v_iload_n C dX9_liesIn_78 rfl rfl ?_
              refine v_aload_n C dX9_liesIn_79 rfl rfl ?_
              refine v_get C dX9_liesIn_80 5 hM.1 rfl in_X9 (by decide) g_fl_X9_23 (fun _ h9 => h9) rfl ?_
              refine v_iload_n C dX9_liesIn_83 rfl rfl ?_
              refine m_lld C hM dX9_liesIn_84 5 o1 (by decide) (show _ < 40 by omega) rfl ?_
              refine v_ci (r_V C (m_hasNumber l D B K _ r f0 A L I o2 _ hM ho2 hq2) dX9_liesIn_85 hM.1 rfl g_ml_X9_120 g_im_yX9_hasNumber g_se_X9_yX9_hasNumber_yX9_hasNumber g_in_X9 g_cd_yX9_hasNumber (rn_le (by decide)) (by decide) rfl rfl hdn_yX9_hasNumber (Nat.le_of_ble_eq_true rfl) ⟨Nat.le_of_ble_eq_true rfl, Nat.le_of_ble_eq_true rfl⟩) (fun r_85 f_85 hp_85 => ?_)
              obtain ⟨rfl, hf9⟩ := hp_85
              have hf9 := hf9.symm
              subst hf9
              refine v_ri (show bI (posS (sgM A L o2) (L 5 o1)).isSome = 1 by rw [← hv00, hv0]; rfl) ?_
              refine v_if_ne (tgt := 93) C dX9_liesIn_88 (by decide) (fun _ => ?_) (fun c_88 => absurd c_88 (by decide))
              refine v_lload_n C dX9_liesIn_93 rfl rfl ?_
              refine v_lconst (v := 1) C dX9_liesIn_94 (by decide) ?_
              refine v_lc_ne (tgt := 101) C dX9_liesIn_95 dX9_liesIn_96 (by decide) (fun c_95 => ?_) (fun c_95 => absurd c_95 (fun h9 => by have h8 := congrArg Int64.toInt h9; rw [sat_toInt] at h8; have z : (1 : Int64).toInt = 1 := rfl; split at h8 <;> omega))
              refine v_aload_n C dX9_liesIn_101 rfl rfl ?_
              refine v_get C dX9_liesIn_102 7 hM.1 rfl in_X9 (by decide) g_fl_X9_29 (fun _ h9 => h9) rfl ?_
              refine v_iload_n C dX9_liesIn_105 rfl rfl ?_
              refine m_ild C hM dX9_liesIn_106 7 o1 (by decide) (show _ < 40 by omega) rfl ?_
              refine v_if_le (tgt := 120) C dX9_liesIn_107 (by decide) (fun c_107 => ?_) (fun c_107 => absurd hs1 c_107)
              refine v_aload_n C dX9_liesIn_120 rfl rfl ?_
              refine v_get C dX9_liesIn_121 7 hM.1 rfl in_X9 (by decide) g_fl_X9_29 (fun _ h9 => h9) rfl ?_
              refine v_iload_n C dX9_liesIn_124 rfl rfl ?_
              refine m_ild C hM dX9_liesIn_125 7 o1 (by decide) (show _ < 40 by omega) rfl ?_
              refine v_i2l C dX9_liesIn_126 ?_
              refine v_lneg C dX9_liesIn_127 ?_
              refine v_lstore C dX9_liesIn_128 (by decide) rfl ?_
              refine v_aload_n C dX9_liesIn_130 rfl rfl ?_
              refine v_get C dX9_liesIn_131 7 hM.1 rfl in_X9 (by decide) g_fl_X9_29 (fun _ h9 => h9) rfl ?_
              refine v_iload_n C dX9_liesIn_134 rfl rfl ?_
              refine m_ild C hM dX9_liesIn_135 7 o2 (by decide) (show _ < 40 by omega) rfl ?_
              refine v_if_le (tgt := 149) C dX9_liesIn_136 (by decide) (fun c_136 => ?_) (fun c_136 => absurd hs2 c_136)
              refine v_aload_n C dX9_liesIn_149 rfl rfl ?_
              refine v_get C dX9_liesIn_150 7 hM.1 rfl in_X9 (by decide) g_fl_X9_29 (fun _ h9 => h9) rfl ?_
              refine v_iload_n C dX9_liesIn_153 rfl rfl ?_
              refine m_ild C hM dX9_liesIn_154 7 o2 (by decide) (show _ < 40 by omega) rfl ?_
              refine v_i2l C dX9_liesIn_155 ?_
              refine v_lneg C dX9_liesIn_156 ?_
              refine v_lstore C dX9_liesIn_157 (by decide) rfl ?_
              refine v_loc [(0, .ref (r 0)), (1, .int (nI o1)), (2, .int (nI o2)), (5, .long (-(A 7 o1).toInt64)), (7, .long (-(A 7 o2).toInt64))] (lsub_c rfl (lsub_c rfl (lsub_c rfl (lsub_c rfl (lsub_c rfl lsub_n))))) ?_
              exact L_lies2 C hr hlk f r f0 A L I o1 o2 hM ho1 ho2 hq1 hq2 hz hc hk1 hli hv0 hc1 (-(A 7 o1).toInt64) (-(A 7 o2).toInt64) (by omega) (by omega) (by omega) (by rw [ea, eb]; exact dv_sign.2.2)
            · have hs2b := up_pos hs2
              have ea := lneg_toInt (x := A 7 o1) (by omega) (by omega)
              have eb := i2l_toInt (A 7 o2)
              refine v_aload_n C dX9_liesIn_0 rfl rfl ?_
              refine v_get C dX9_liesIn_1 4 hM.1 rfl in_X9 (by decide) g_fl_X9_19 (fun _ h9 => h9) rfl ?_
              refine v_iload_n C dX9_liesIn_4 rfl rfl ?_
              refine m_lld C hM dX9_liesIn_5 4 o1 (by decide) (show _ < 40 by omega) rfl ?_
              refine v_rl hz ?_
              refine v_lstore_n C dX9_liesIn_6 rfl (by decide) rfl ?_
              refine v_aload_n C dX9_liesIn_7 rfl rfl ?_
              refine v_get C dX9_liesIn_8 1 hM.1 rfl in_X9 (by decide) g_fl_X9_7 (fun _ h9 => h9) rfl ?_
              refine v_iload_n C dX9_liesIn_11 rfl rfl ?_
              refine m_ild C hM dX9_liesIn_12 1 o1 (by decide) (show _ < 40 by omega) rfl ?_
              refine v_iconst (v := 2) C dX9_liesIn_13 (by decide) ?_
              refine v_icmp_eq (tgt := 27) C dX9_liesIn_14 (by decide) (fun c_14 => absurd c_14 hk1) (fun c_14 => ?_)
              refine v_aload_n C dX9_liesIn_17 rfl rfl ?_
              refine v_get C dX9_liesIn_18 1 hM.1 rfl in_X9 (by decide) g_fl_X9_7 (fun _ h9 => h9) rfl ?_
              refine v_iload_n C dX9_liesIn_21 rfl rfl ?_
              refine m_ild C hM dX9_liesIn_22 1 o2 (by decide) (show _ < 40 by omega) rfl ?_
              refine v_iconst (v := 2) C dX9_liesIn_23 (by decide) ?_
              refine v_icmp_ne (tgt := 77) C dX9_liesIn_24 (by decide) (fun c_24 => ?_) (fun c_24 => absurd c_24 hk2)
              refine v_aload_n C dX9_liesIn_77 rfl rfl ?_
              refine v_iload_n C dX9_liesIn_78 rfl rfl ?_
              refine v_aload_n C dX9_liesIn_79 rfl rfl ?_
              refine v_get C dX9_liesIn_80 5 hM.1 rfl in_X9 (by decide) g_fl_X9_23 (fun _ h9 => h9) rfl ?_
              refine v_iload_n C dX9_liesIn_83 rfl rfl ?_
              refine m_lld C hM dX9_liesIn_84 5 o1 (by decide) (show _ < 40 by omega) rfl ?_
              refine v_ci (r_V C (m_hasNumber l D B K _ r f0 A L I o2 _ hM ho2 hq2) dX9_liesIn_85 hM.1 rfl g_ml_X9_120 g_im_yX9_hasNumber g_se_X9_yX9_hasNumber_yX9_hasNumber g_in_X9 g_cd_yX9_hasNumber (rn_le (by decide)) (by decide) rfl rfl hdn_yX9_hasNumber (Nat.le_of_ble_eq_true rfl) ⟨Nat.le_of_ble_eq_true rfl, Nat.le_of_ble_eq_true rfl⟩) (fun r_85 f_85 hp_85 => ?_)
              obtain ⟨rfl, hf9⟩ := hp_85
              have hf9 := hf9.symm
              subst hf9
              refine v_ri (show bI (posS (sgM A L o2) (L 5 o1)).isSome = 1 by rw [← hv00, hv0]; rfl) ?_
              refine v_if_ne (tgt := 93) C dX9_liesIn_88 (by decide) (fun _ => ?_) (fun c_88 => absurd c_88 (by decide))
              refine v_lload_n C dX9_liesIn_93 rfl rfl ?_
              refine v_lconst (v := 1) C dX9_liesIn_94 (by decide) ?_
              refine v_lc_ne (tgt := 101) C dX9_liesIn_95 dX9_liesIn_96 (by decide) (fun c_95 => ?_) (fun c_95 => absurd c_95 (fun h9 => by have h8 := congrArg Int64.toInt h9; rw [sat_toInt] at h8; have z : (1 : Int64).toInt = 1 := rfl; split at h8 <;> omega))
              refine v_aload_n C dX9_liesIn_101 rfl rfl ?_
              refine v_get C dX9_liesIn_102 7 hM.1 rfl in_X9 (by decide) g_fl_X9_29 (fun _ h9 => h9) rfl ?_
              refine v_iload_n C dX9_liesIn_105 rfl rfl ?_
              refine m_ild C hM dX9_liesIn_106 7 o1 (by decide) (show _ < 40 by omega) rfl ?_
              refine v_if_le (tgt := 120) C dX9_liesIn_107 (by decide) (fun c_107 => ?_) (fun c_107 => absurd hs1 c_107)
              refine v_aload_n C dX9_liesIn_120 rfl rfl ?_
              refine v_get C dX9_liesIn_121 7 hM.1 rfl in_X9 (by decide) g_fl_X9_29 (fun _ h9 => h9) rfl ?_
              refine v_iload_n C dX9_liesIn_124 rfl rfl ?_
              refine m_ild C hM dX9_liesIn_125 7 o1 (by decide) (show _ < 40 by omega) rfl ?_
              refine v_i2l C dX9_liesIn_126 ?_
              refine v_lneg C dX9_liesIn_127 ?_
              refine v_lstore C dX9_liesIn_128 (by decide) rfl ?_
              refine v_aload_n C dX9_liesIn_130 rfl rfl ?_
              refine v_get C dX9_liesIn_131 7 hM.1 rfl in_X9 (by decide) g_fl_X9_29 (fun _ h9 => h9) rfl ?_
              refine v_iload_n C dX9_liesIn_134 rfl rfl ?_
              refine m_ild C hM dX9_liesIn_135 7 o2 (by decide) (show _ < 40 by omega) rfl ?_
              refine v_if_le (tgt := 149) C dX9_liesIn_136 (by decide) (fun c_136 => absurd c_136 hs2) (fun c_136 => ?_)
              refine v_aload_n C dX9_liesIn_139 rfl rfl ?_
              refine v_get C dX9_liesIn_140 7 hM.1 rfl in_X9 (by decide) g_fl_X9_29 (fun _ h9 => h9) rfl ?_
              refine v_iload_n C dX9_liesIn_143 rfl rfl ?_
              refine m_ild C hM dX9_liesIn_144 7 o2 (by decide) (show _ < 40 by omega) rfl ?_
              refine v_i2l C dX9_liesIn_145 ?_
              refine v_goto (tgt := 157) C dX9_liesIn_146 (by decide) ?_
              refine v_lstore C dX9_liesIn_157 (by decide) rfl ?_
              refine v_loc [(0, .ref (r 0)), (1, .int (nI o1)), (2, .int (nI o2)), (5, .long (-(A 7 o1).toInt64)), (7, .long (A 7 o2).toInt64)] (lsub_c rfl (lsub_c rfl (lsub_c rfl (lsub_c rfl (lsub_c rfl lsub_n))))) ?_
              exact L_lies2 C hr hlk f r f0 A L I o1 o2 hM ho1 ho2 hq1 hq2 hz hc hk1 hli hv0 hc1 (-(A 7 o1).toInt64) (A 7 o2).toInt64 (by omega) (by omega) (by omega) (by rw [ea, eb]; exact dv_sign.1)
          · have hs1b := up_pos hs1
            by_cases hs2 : A 7 o2 ≤ 0
            · have hs2b := up_neg hs2
              have ea := i2l_toInt (A 7 o1)
              have eb := lneg_toInt (x := A 7 o2) (by omega) (by omega)
              refine v_aload_n C dX9_liesIn_0 rfl rfl ?_
              refine v_get C dX9_liesIn_1 4 hM.1 rfl in_X9 (by decide) g_fl_X9_19 (fun _ h9 => h9) rfl ?_
              refine v_iload_n C dX9_liesIn_4 rfl rfl ?_
              refine m_lld C hM dX9_liesIn_5 4 o1 (by decide) (show _ < 40 by omega) rfl ?_
              refine v_rl hz ?_
              refine v_lstore_n C dX9_liesIn_6 rfl (by decide) rfl ?_
              refine v_aload_n C dX9_liesIn_7 rfl rfl ?_
              refine v_get C dX9_liesIn_8 1 hM.1 rfl in_X9 (by decide) g_fl_X9_7 (fun _ h9 => h9) rfl ?_
              refine v_iload_n C dX9_liesIn_11 rfl rfl ?_
              refine m_ild C hM dX9_liesIn_12 1 o1 (by decide) (show _ < 40 by omega) rfl ?_
              refine v_iconst (v := 2) C dX9_liesIn_13 (by decide) ?_
              refine v_icmp_eq (tgt := 27) C dX9_liesIn_14 (by decide) (fun c_14 => absurd c_14 hk1) (fun c_14 => ?_)
              refine v_aload_n C dX9_liesIn_17 rfl rfl ?_
              refine v_get C dX9_liesIn_18 1 hM.1 rfl in_X9 (by decide) g_fl_X9_7 (fun _ h9 => h9) rfl ?_
              refine v_iload_n C dX9_liesIn_21 rfl rfl ?_
              refine m_ild C hM dX9_liesIn_22 1 o2 (by decide) (show _ < 40 by omega) rfl ?_
              refine v_iconst (v := 2) C dX9_liesIn_23 (by decide) ?_
              refine v_icmp_ne (tgt := 77) C dX9_liesIn_24 (by decide) (fun c_24 => ?_) (fun c_24 => absurd c_24 hk2)
              refine v_aload_n C dX9_liesIn_77 rfl rfl ?_
              refine v_iload_n C dX9_liesIn_78 rfl rfl ?_
              refine v_aload_n C dX9_liesIn_79 rfl rfl ?_
              refine v_get C dX9_liesIn_80 5 hM.1 rfl in_X9 (by decide) g_fl_X9_23 (fun _ h9 => h9) rfl ?_
              refine v_iload_n C dX9_liesIn_83 rfl rfl ?_
              refine m_lld C hM dX9_liesIn_84 5 o1 (by decide) (show _ < 40 by omega) rfl ?_
              refine v_ci (r_V C (m_hasNumber l D B K _ r f0 A L I o2 _ hM ho2 hq2) dX9_liesIn_85 hM.1 rfl g_ml_X9_120 g_im_yX9_hasNumber g_se_X9_yX9_hasNumber_yX9_hasNumber g_in_X9 g_cd_yX9_hasNumber (rn_le (by decide)) (by decide) rfl rfl hdn_yX9_hasNumber (Nat.le_of_ble_eq_true rfl) ⟨Nat.le_of_ble_eq_true rfl, Nat.le_of_ble_eq_true rfl⟩) (fun r_85 f_85 hp_85 => ?_)
              obtain ⟨rfl, hf9⟩ := hp_85
              have hf9 := hf9.symm
              subst hf9
              refine v_ri (show bI (posS (sgM A L o2) (L 5 o1)).isSome = 1 by rw [← hv00, hv0]; rfl) ?_
              refine v_if_ne (tgt := 93) C dX9_liesIn_88 (by decide) (fun _ => ?_) (fun c_88 => absurd c_88 (by decide))
              refine v_lload_n C dX9_liesIn_93 rfl rfl ?_
              refine v_lconst (v := 1) C dX9_liesIn_94 (by decide) ?_
              refine v_lc_ne (tgt := 101) C dX9_liesIn_95 dX9_liesIn_96 (by decide) (fun c_95 => ?_) (fun c_95 => absurd c_95 (fun h9 => by have h8 := congrArg Int64.toInt h9; rw [sat_toInt] at h8; have z : (1 : Int64).toInt = 1 := rfl; split at h8 <;> omega))
              refine v_aload_n C dX9_liesIn_101 rfl rfl ?_
              refine v_get C dX9_liesIn_102 7 hM.1 rfl in_X9 (by decide) g_fl_X9_29 (fun _ h9 => h9) rfl ?_
              refine v_iload_n C dX9_liesIn_105 rfl rfl ?_
              refine m_ild C hM dX9_liesIn_106 7 o1 (by decide) (show _ < 40 by omega) rfl ?_
              refine v_if_le (tgt := 120) C dX9_liesIn_107 (by decide) (fun c_107 => absurd c_107 hs1) (fun c_107 => ?_)
              refine v_aload_n C dX9_liesIn_110 rfl rfl ?_
              refine v_get C dX9_liesIn_111 7 hM.1 rfl in_X9 (by decide) g_fl_X9_29 (fun _ h9 => h9) rfl ?_
              refine v_iload_n C dX9_liesIn_114 rfl rfl ?_
              refine m_ild C hM dX9_liesIn_115 7 o1 (by decide) (show _ < 40 by omega) rfl ?_
              refine v_i2l C dX9_liesIn_116 ?_
              refine v_goto (tgt := 128) C dX9_liesIn_117 (by decide) ?_
              refine v_lstore C dX9_liesIn_128 (by decide) rfl ?_
              refine v_aload_n C dX9_liesIn_130 rfl rfl ?_
              refine v_get C dX9_liesIn_131 7 hM.1 rfl in_X9 (by decide) g_fl_X9_29 (fun _ h9 => h9) rfl ?_
              refine v_iload_n C dX9_liesIn_134 rfl rfl ?_
              refine m_ild C hM dX9_liesIn_135 7 o2 (by decide) (show _ < 40 by omega) rfl ?_
              refine v_if_le (tgt := 149) C dX9_liesIn_136 (by decide) (fun c_136 => ?_) (fun c_136 => absurd hs2 c_136)
              refine v_aload_n C dX9_liesIn_149 rfl rfl ?_
              refine v_get C dX9_liesIn_150 7 hM.1 rfl in_X9 (by decide) g_fl_X9_29 (fun _ h9 => h9) rfl ?_
              refine v_iload_n C dX9_liesIn_153 rfl rfl ?_
              refine m_ild C hM dX9_liesIn_154 7 o2 (by decide) (show _ < 40 by omega) rfl ?_
              refine v_i2l C dX9_liesIn_155 ?_
              refine v_lneg C dX9_liesIn_156 ?_
              refine v_lstore C dX9_liesIn_157 (by decide) rfl ?_
              refine v_loc [(0, .ref (r 0)), (1, .int (nI o1)), (2, .int (nI o2)), (5, .long (A 7 o1).toInt64), (7, .long (-(A 7 o2).toInt64))] (lsub_c rfl (lsub_c rfl (lsub_c rfl (lsub_c rfl (lsub_c rfl lsub_n))))) ?_
              exact L_lies2 C hr hlk f r f0 A L I o1 o2 hM ho1 ho2 hq1 hq2 hz hc hk1 hli hv0 hc1 (A 7 o1).toInt64 (-(A 7 o2).toInt64) (by omega) (by omega) (by omega) (by rw [ea, eb]; exact dv_sign.2.1)
            · have hs2b := up_pos hs2
              have ea := i2l_toInt (A 7 o1)
              have eb := i2l_toInt (A 7 o2)
              refine v_aload_n C dX9_liesIn_0 rfl rfl ?_
              refine v_get C dX9_liesIn_1 4 hM.1 rfl in_X9 (by decide) g_fl_X9_19 (fun _ h9 => h9) rfl ?_
              refine v_iload_n C dX9_liesIn_4 rfl rfl ?_
              refine m_lld C hM dX9_liesIn_5 4 o1 (by decide) (show _ < 40 by omega) rfl ?_
              refine v_rl hz ?_
              refine v_lstore_n C dX9_liesIn_6 rfl (by decide) rfl ?_
              refine v_aload_n C dX9_liesIn_7 rfl rfl ?_
              refine v_get C dX9_liesIn_8 1 hM.1 rfl in_X9 (by decide) g_fl_X9_7 (fun _ h9 => h9) rfl ?_
              refine v_iload_n C dX9_liesIn_11 rfl rfl ?_
              refine m_ild C hM dX9_liesIn_12 1 o1 (by decide) (show _ < 40 by omega) rfl ?_
              refine v_iconst (v := 2) C dX9_liesIn_13 (by decide) ?_
              refine v_icmp_eq (tgt := 27) C dX9_liesIn_14 (by decide) (fun c_14 => absurd c_14 hk1) (fun c_14 => ?_)
              refine v_aload_n C dX9_liesIn_17 rfl rfl ?_
              refine v_get C dX9_liesIn_18 1 hM.1 rfl in_X9 (by decide) g_fl_X9_7 (fun _ h9 => h9) rfl ?_
              refine v_iload_n C dX9_liesIn_21 rfl rfl ?_
              refine m_ild C hM dX9_liesIn_22 1 o2 (by decide) (show _ < 40 by omega) rfl ?_
              refine v_iconst (v := 2) C dX9_liesIn_23 (by decide) ?_
              refine v_icmp_ne (tgt := 77) C dX9_liesIn_24 (by decide) (fun c_24 => ?_) (fun c_24 => absurd c_24 hk2)
              refine v_aload_n C dX9_liesIn_77 rfl rfl ?_
              refine v_iload_n C dX9_liesIn_78 rfl rfl ?_
              refine v_aload_n C dX9_liesIn_79 rfl rfl ?_
              refine v_get C dX9_liesIn_80 5 hM.1 rfl in_X9 (by decide) g_fl_X9_23 (fun _ h9 => h9) rfl ?_
              refine v_iload_n C dX9_liesIn_83 rfl rfl ?_
              refine m_lld C hM dX9_liesIn_84 5 o1 (by decide) (show _ < 40 by omega) rfl ?_
              refine v_ci (r_V C (m_hasNumber l D B K _ r f0 A L I o2 _ hM ho2 hq2) dX9_liesIn_85 hM.1 rfl g_ml_X9_120 g_im_yX9_hasNumber g_se_X9_yX9_hasNumber_yX9_hasNumber g_in_X9 g_cd_yX9_hasNumber (rn_le (by decide)) (by decide) rfl rfl hdn_yX9_hasNumber (Nat.le_of_ble_eq_true rfl) ⟨Nat.le_of_ble_eq_true rfl, Nat.le_of_ble_eq_true rfl⟩) (fun r_85 f_85 hp_85 => ?_)
              obtain ⟨rfl, hf9⟩ := hp_85
              have hf9 := hf9.symm
              subst hf9
              refine v_ri (show bI (posS (sgM A L o2) (L 5 o1)).isSome = 1 by rw [← hv00, hv0]; rfl) ?_
              refine v_if_ne (tgt := 93) C dX9_liesIn_88 (by decide) (fun _ => ?_) (fun c_88 => absurd c_88 (by decide))
              refine v_lload_n C dX9_liesIn_93 rfl rfl ?_
              refine v_lconst (v := 1) C dX9_liesIn_94 (by decide) ?_
              refine v_lc_ne (tgt := 101) C dX9_liesIn_95 dX9_liesIn_96 (by decide) (fun c_95 => ?_) (fun c_95 => absurd c_95 (fun h9 => by have h8 := congrArg Int64.toInt h9; rw [sat_toInt] at h8; have z : (1 : Int64).toInt = 1 := rfl; split at h8 <;> omega))
              refine v_aload_n C dX9_liesIn_101 rfl rfl ?_
              refine v_get C dX9_liesIn_102 7 hM.1 rfl in_X9 (by decide) g_fl_X9_29 (fun _ h9 => h9) rfl ?_
              refine v_iload_n C dX9_liesIn_105 rfl rfl ?_
              refine m_ild C hM dX9_liesIn_106 7 o1 (by decide) (show _ < 40 by omega) rfl ?_
              refine v_if_le (tgt := 120) C dX9_liesIn_107 (by decide) (fun c_107 => absurd c_107 hs1) (fun c_107 => ?_)
              refine v_aload_n C dX9_liesIn_110 rfl rfl ?_
              refine v_get C dX9_liesIn_111 7 hM.1 rfl in_X9 (by decide) g_fl_X9_29 (fun _ h9 => h9) rfl ?_
              refine v_iload_n C dX9_liesIn_114 rfl rfl ?_
              refine m_ild C hM dX9_liesIn_115 7 o1 (by decide) (show _ < 40 by omega) rfl ?_
              refine v_i2l C dX9_liesIn_116 ?_
              refine v_goto (tgt := 128) C dX9_liesIn_117 (by decide) ?_
              refine v_lstore C dX9_liesIn_128 (by decide) rfl ?_
              refine v_aload_n C dX9_liesIn_130 rfl rfl ?_
              refine v_get C dX9_liesIn_131 7 hM.1 rfl in_X9 (by decide) g_fl_X9_29 (fun _ h9 => h9) rfl ?_
              refine v_iload_n C dX9_liesIn_134 rfl rfl ?_
              refine m_ild C hM dX9_liesIn_135 7 o2 (by decide) (show _ < 40 by omega) rfl ?_
              refine v_if_le (tgt := 149) C dX9_liesIn_136 (by decide) (fun c_136 => absurd c_136 hs2) (fun c_136 => ?_)
              refine v_aload_n C dX9_liesIn_139 rfl rfl ?_
              refine v_get C dX9_liesIn_140 7 hM.1 rfl in_X9 (by decide) g_fl_X9_29 (fun _ h9 => h9) rfl ?_
              refine v_iload_n C dX9_liesIn_143 rfl rfl ?_
              refine m_ild C hM dX9_liesIn_144 7 o2 (by decide) (show _ < 40 by omega) rfl ?_
              refine v_i2l C dX9_liesIn_145 ?_
              refine v_goto (tgt := 157) C dX9_liesIn_146 (by decide) ?_
              refine v_lstore C dX9_liesIn_157 (by decide) rfl ?_
              refine v_loc [(0, .ref (r 0)), (1, .int (nI o1)), (2, .int (nI o2)), (5, .long (A 7 o1).toInt64), (7, .long (A 7 o2).toInt64)] (lsub_c rfl (lsub_c rfl (lsub_c rfl (lsub_c rfl (lsub_c rfl lsub_n))))) ?_
              exact L_lies2 C hr hlk f r f0 A L I o1 o2 hM ho1 ho2 hq1 hq2 hz hc hk1 hli hv0 hc1 (A 7 o1).toInt64 (A 7 o2).toInt64 (by omega) (by omega) (by omega) (by rw [ea, eb]; exact Iff.rfl)

set_option maxHeartbeats 4000000 in
set_option maxRecDepth 100000 in
theorem m_within_bad0 (l : Launch) (D : va_G) (B : Nat) (K : Nat → ClassId) (f : St) (r : Nat → Nat) (f0 : St) (A : Nat → Nat → Int32) (L : Nat → Nat → Int64) (I : Nat → Int32) (n : Nat) (hM : MC K r f0 f A L I) (hI0 : I 0 = nI n) (hn40 : n ≤ 40) (x : Int32) (hx : x < 0 ∨ nI n ≤ x) (x2 : Int32) : Kc l D B K yX9_within cX9_within 5 ((some .int)) 4 0 0 [.ref (r 0), .int x, .int x2] f (Qi_ D B (fun x f9 => x = -101 ∧ f9 = f)) := by
  refine v_met [(0, .ref (r 0)), (1, .int x), (2, .int x2)] (by decide) (Nat.le_of_ble_eq_true rfl) rfl ?_
  intro p e s m args below meth c C hr hlk hin
  refine v_aload_n C dX9_within_0 rfl rfl ?_
  refine v_iload_n C dX9_within_1 rfl rfl ?_
  refine v_ci (r_V C (m_noRange_bad l D B K _ r f0 A L I n hM hI0 hn40 x hx) dX9_within_2 hM.1 rfl g_ml_X9_101 g_im_yX9_noRange g_se_X9_yX9_noRange_yX9_noRange g_in_X9 g_cd_yX9_noRange (rn_le (by decide)) (by decide) rfl rfl hdn_yX9_noRange (Nat.le_of_ble_eq_true rfl) ⟨Nat.le_of_ble_eq_true rfl, Nat.le_of_ble_eq_true rfl⟩) (fun r_2 f_2 hp_2 => ?_)
  obtain ⟨rfl, hf9⟩ := hp_2
  have hf9 := hf9.symm
  subst hf9
  refine v_if_ne (tgt := 16) C dX9_within_5 (by decide) (fun _ => ?_) (fun c_5 => absurd c_5 (by decide))
  refine v_bipush (v := (-101)) C dX9_within_16 (by decide) ?_
  exact v_iret C hr hlk dX9_within_18 (Nat.le_refl _) (Nat.le_refl _) ⟨rfl, rfl⟩

set_option maxHeartbeats 4000000 in
set_option maxRecDepth 100000 in
theorem m_within_bad1 (l : Launch) (D : va_G) (B : Nat) (K : Nat → ClassId) (f : St) (r : Nat → Nat) (f0 : St) (A : Nat → Nat → Int32) (L : Nat → Nat → Int64) (I : Nat → Int32) (n : Nat) (hM : MC K r f0 f A L I) (hI0 : I 0 = nI n) (hn40 : n ≤ 40) (i : Nat) (hi : i < n) (x2 : Int32) (hx2 : x2 < 0 ∨ nI n ≤ x2) : Kc l D B K yX9_within cX9_within 5 ((some .int)) 4 0 0 [.ref (r 0), .int (nI i), .int x2] f (Qi_ D B (fun x f9 => x = -101 ∧ f9 = f)) := by
  refine v_met [(0, .ref (r 0)), (1, .int (nI i)), (2, .int x2)] (by decide) (Nat.le_of_ble_eq_true rfl) rfl ?_
  intro p e s m args below meth c C hr hlk hin
  refine v_aload_n C dX9_within_0 rfl rfl ?_
  refine v_iload_n C dX9_within_1 rfl rfl ?_
  refine v_ci (r_V C (m_noRange_ok l D B K _ r f0 A L I n hM hI0 hn40 i hi) dX9_within_2 hM.1 rfl g_ml_X9_101 g_im_yX9_noRange g_se_X9_yX9_noRange_yX9_noRange g_in_X9 g_cd_yX9_noRange (rn_le (by decide)) (by decide) rfl rfl hdn_yX9_noRange (Nat.le_of_ble_eq_true rfl) ⟨Nat.le_of_ble_eq_true rfl, Nat.le_of_ble_eq_true rfl⟩) (fun r_2 f_2 hp_2 => ?_)
  obtain ⟨rfl, hf9⟩ := hp_2
  have hf9 := hf9.symm
  subst hf9
  refine v_if_ne (tgt := 16) C dX9_within_5 (by decide) (fun c_5 => absurd c_5 (by decide)) (fun _ => ?_)
  refine v_aload_n C dX9_within_8 rfl rfl ?_
  refine v_iload_n C dX9_within_9 rfl rfl ?_
  refine v_ci (r_V C (m_noRange_bad l D B K _ r f0 A L I n hM hI0 hn40 x2 hx2) dX9_within_10 hM.1 rfl g_ml_X9_101 g_im_yX9_noRange g_se_X9_yX9_noRange_yX9_noRange g_in_X9 g_cd_yX9_noRange (rn_le (by decide)) (by decide) rfl rfl hdn_yX9_noRange (Nat.le_of_ble_eq_true rfl) ⟨Nat.le_of_ble_eq_true rfl, Nat.le_of_ble_eq_true rfl⟩) (fun r_10 f_10 hp_10 => ?_)
  obtain ⟨rfl, hf9⟩ := hp_10
  have hf9 := hf9.symm
  subst hf9
  refine v_if_eq (tgt := 19) C dX9_within_13 (by decide) (fun c_13 => absurd c_13 (by decide)) (fun _ => ?_)
  refine v_bipush (v := (-101)) C dX9_within_16 (by decide) ?_
  exact v_iret C hr hlk dX9_within_18 (Nat.le_refl _) (Nat.le_refl _) ⟨rfl, rfl⟩

set_option maxHeartbeats 4000000 in
set_option maxRecDepth 100000 in
theorem L_within9 {p : Program} {l : Launch} {e : Env} {s : State} {m : MethodId} {args : Array Value} {below : List Frame} {meth : Method} {c : Code} {D : va_G} {B : Nat} {K : Nat → ClassId} (C : Cx p s m args c cX9_within 5 yX9_within.cls D B K) (hr : meth.sig.returnType = (some .int)) (hlk : meth.locks = false) (f : St) (r : Nat → Nat) (f0 : St) (A : Nat → Nat → Int32) (L : Nat → Nat → Int64) (I : Nat → Int32) (n : Nat) (hM : MC K r f0 f A L I) (hI0 : I 0 = nI n) (hn40 : n ≤ 40) (sg : Nat → Sg) (l1 l2 : List Ent) (i j : Nat) (hi : i < n) (hj : j < n) (hr1 : RowM A L sg l1 i n) (hr2 : RowM A L sg l2 j n) (hz : L 4 i = sat (prodE sg l1)) (hlen : l1.length = l2.length) (hpz : ¬ prodE sg l1 = 0) : ∀ (n9 k : Nat) (b : Bool), k ≤ l1.length → l1.length + 1 ≤ k + n9 → (b = true → ∀ j9, j9 < k → liE sg l1 l2 j9 = true) → (b = false → wiS sg l1 l2 = false) → V p l e (RM 4 0 0) s m args below meth c D B 5 (MQ below (Qi_ D B (fun x f9 => x = bI (wiS sg l1 l2) ∧ f9 = f)) args s 0 0 (AB B)) 0 0 f (lof [(0, .ref (r 0)), (1, .int (nI i)), (2, .int (nI j)), (3, .int (bI b)), (4, .int (nI k))]) 43 [] := by
  have hl1 := hr1.2.2.1
  have hl2 := hr2.2.2.1
  intro n9
  induction n9 with
  | zero => intro k b h1 h2; omega
  | succ n9 ih =>
    intro k b hk hin hb1 hb0
    by_cases hlt : k < l1.length
    · cases b with
      | true =>
        have he1 : l1[k]? = some l1[k] := List.getElem?_eq_getElem hlt
        have he2 : l2[k]? = some (l2[k]'(by omega)) := List.getElem?_eq_getElem (by omega)
        obtain ⟨q8, q9, q10, qn, qsg, qok, qz⟩ := hr1.2.2.2 k _ he1
        obtain ⟨s8, s9, s10, sn, ssg, sok, sz⟩ := hr2.2.2.2 k _ he2
        have hcp : 1 ≤ cntS (sg l1[k].1) := cnt_pos hpz (List.mem_of_getElem? he1)
        have hlE : liE sg l1 l2 k = liS (sg l1[k].1) (sg (l2[k]'(by omega)).1) := by unfold liE; rw [he1, he2]
        generalize l1[k] = e1 at *
        generalize (l2[k]'(by omega)) = e2 at *
        refine v_iload C dX9_within_43 rfl ?_
        refine v_aload_n C dX9_within_45 rfl rfl ?_
        refine v_get C dX9_within_46 3 hM.1 rfl in_X9 (by decide) g_fl_X9_16 (fun _ h9 => h9) rfl ?_
        refine v_iload_n C dX9_within_49 rfl rfl ?_
        refine m_ild C hM dX9_within_50 3 i (by decide) (show _ < 40 by omega) rfl ?_
        refine v_ri hr1.1 ?_
        refine v_icmp_ge (tgt := 104) C dX9_within_51 (by decide) (fun c_51 => absurd c_51 (nI_ge hlt (by omega))) (fun c_51 => ?_)
        refine v_iload_n C dX9_within_54 rfl rfl ?_
        refine v_if_eq (tgt := 104) C dX9_within_55 (by decide) (fun c_55 => absurd c_55 (by decide)) (fun c_55 => ?_)
        refine v_aload_n C dX9_within_58 rfl rfl ?_
        refine v_get C dX9_within_59 4 hM.1 rfl in_X9 (by decide) g_fl_X9_19 (fun _ h9 => h9) rfl ?_
        refine v_iload_n C dX9_within_62 rfl rfl ?_
        refine m_lld C hM dX9_within_63 4 i (by decide) (show _ < 40 by omega) rfl ?_
        refine v_rl hz ?_
        refine v_lconst (v := 0) C dX9_within_64 (by decide) ?_
        refine v_lc_eq (tgt := 104) C dX9_within_65 dX9_within_66 (by decide) (fun c_65 => absurd c_65 (fun h9 => hpz ((sat_0 _).mp h9))) (fun c_65 => ?_)
        refine v_aload_n C dX9_within_69 rfl rfl ?_
        refine v_aload_n C dX9_within_70 rfl rfl ?_
        refine v_get C dX9_within_71 8 hM.1 rfl in_X9 (by decide) g_fl_X9_32 (fun _ h9 => h9) rfl ?_
        refine v_bipush (v := 8) C dX9_within_74 (by decide) ?_
        refine v_iload_n C dX9_within_76 rfl rfl ?_
        refine v_imul C dX9_within_77 ?_
        refine v_iload C dX9_within_78 rfl ?_
        refine v_iadd C dX9_within_80 ?_
        refine m_ild C hM dX9_within_81 8 ((8 * i) + k) (by decide) (show _ < 320 by omega) (by simp only [← nI_add, ← pk_mul]; rfl) ?_
        refine v_ri q8 ?_
        refine v_aload_n C dX9_within_82 rfl rfl ?_
        refine v_get C dX9_within_83 8 hM.1 rfl in_X9 (by decide) g_fl_X9_32 (fun _ h9 => h9) rfl ?_
        refine v_bipush (v := 8) C dX9_within_86 (by decide) ?_
        refine v_iload_n C dX9_within_88 rfl rfl ?_
        refine v_imul C dX9_within_89 ?_
        refine v_iload C dX9_within_90 rfl ?_
        refine v_iadd C dX9_within_92 ?_
        refine m_ild C hM dX9_within_93 8 ((8 * j) + k) (by decide) (show _ < 320 by omega) (by simp only [← nI_add, ← pk_mul]; rfl) ?_
        refine v_ri s8 ?_
        refine v_ci (r_V C (m_liesIn l D B K _ r f0 A L I e1.1 e2.1 hM (by omega) (by omega) (by rw [qsg]; exact qok) (by rw [ssg]; exact sok) (by rw [qsg]; exact qz) (by rw [qsg]; exact hcp)) dX9_within_94 hM.1 rfl g_ml_X9_165 g_im_yX9_liesIn g_se_X9_yX9_liesIn_yX9_liesIn g_in_X9 g_cd_yX9_liesIn (rn_le (by decide)) (by decide) rfl rfl hdn_yX9_liesIn (Nat.le_of_ble_eq_true rfl) ⟨Nat.le_of_ble_eq_true rfl, Nat.le_of_ble_eq_true rfl⟩) (fun r_94 f_94 hp_94 => ?_)
        obtain ⟨rfl, hf9⟩ := hp_94
        have hf9 := hf9.symm
        subst hf9
        refine v_ri (show bI (liS (sgM A L e1.1) (sgM A L e2.1)) = bI (liE sg l1 l2 k) by rw [qsg, ssg, hlE]) ?_
        refine v_istore_n C dX9_within_97 rfl (by decide) rfl ?_
        refine v_iinc (y := 1) C dX9_within_98 rfl (by decide) (by decide) rfl ?_
        refine v_goto (tgt := 43) C dX9_within_101 (by decide) ?_
        refine v_loc [(0, .ref (r 0)), (1, .int (nI i)), (2, .int (nI j)), (3, .int (bI (liE sg l1 l2 k))), (4, .int (nI (k + 1)))] (lsub_c rfl (lsub_c rfl (lsub_c rfl (lsub_c rfl (lsub_c (by rw [nI_succ]; rfl) lsub_n))))) ?_
        refine ih (k + 1) _ hlt (by omega) (fun h9 j9 hj9 => ?_) (fun h9 => ?_)
        · by_cases e9 : j9 = k
          · subst e9; exact h9
          · exact hb1 rfl j9 (by omega)
        · unfold wiS; rw [range_all_false hlt h9, decide_eq_false hpz, Bool.or_false, Bool.and_false]
      | false =>
        refine v_iload C dX9_within_43 rfl ?_
        refine v_aload_n C dX9_within_45 rfl rfl ?_
        refine v_get C dX9_within_46 3 hM.1 rfl in_X9 (by decide) g_fl_X9_16 (fun _ h9 => h9) rfl ?_
        refine v_iload_n C dX9_within_49 rfl rfl ?_
        refine m_ild C hM dX9_within_50 3 i (by decide) (show _ < 40 by omega) rfl ?_
        refine v_ri hr1.1 ?_
        refine v_icmp_ge (tgt := 104) C dX9_within_51 (by decide) (fun c_51 => absurd c_51 (nI_ge hlt (by omega))) (fun c_51 => ?_)
        refine v_iload_n C dX9_within_54 rfl rfl ?_
        refine v_if_eq (tgt := 104) C dX9_within_55 (by decide) (fun c_55 => ?_) (fun c_55 => absurd rfl c_55)
        refine v_iload_n C dX9_within_104 rfl rfl ?_
        refine v_if_eq (tgt := 112) C dX9_within_105 (by decide) (fun c_105 => ?_) (fun c_105 => absurd rfl c_105)
        refine v_iconst (v := 0) C dX9_within_112 (by decide) ?_
        exact v_iret C hr hlk dX9_within_113 (Nat.le_refl _) (Nat.le_refl _) ⟨by rw [hb0 rfl]; rfl, rfl⟩
    · cases b with
      | true =>
        have hwi : wiS sg l1 l2 = true := by unfold wiS; rw [range_all_true (fun j9 hj9 => hb1 rfl j9 (by omega)), Bool.or_true, decide_eq_true hlen]; rfl
        refine v_iload C dX9_within_43 rfl ?_
        refine v_aload_n C dX9_within_45 rfl rfl ?_
        refine v_get C dX9_within_46 3 hM.1 rfl in_X9 (by decide) g_fl_X9_16 (fun _ h9 => h9) rfl ?_
        refine v_iload_n C dX9_within_49 rfl rfl ?_
        refine m_ild C hM dX9_within_50 3 i (by decide) (show _ < 40 by omega) rfl ?_
        refine v_ri hr1.1 ?_
        refine v_icmp_ge (tgt := 104) C dX9_within_51 (by decide) (fun c_51 => ?_) (fun c_51 => absurd (nI_le (by omega) (by omega)) c_51)
        refine v_iload_n C dX9_within_104 rfl rfl ?_
        refine v_if_eq (tgt := 112) C dX9_within_105 (by decide) (fun c_105 => absurd c_105 (by decide)) (fun c_105 => ?_)
        refine v_iconst (v := 1) C dX9_within_108 (by decide) ?_
        refine v_goto (tgt := 113) C dX9_within_109 (by decide) ?_
        exact v_iret C hr hlk dX9_within_113 (Nat.le_refl _) (Nat.le_refl _) ⟨by rw [hwi]; rfl, rfl⟩
      | false =>
        refine v_iload C dX9_within_43 rfl ?_
        refine v_aload_n C dX9_within_45 rfl rfl ?_
        refine v_get C dX9_within_46 3 hM.1 rfl in_X9 (by decide) g_fl_X9_16 (fun _ h9 => h9) rfl ?_
        refine v_iload_n C dX9_within_49 rfl rfl ?_
        refine m_ild C hM dX9_within_50 3 i (by decide) (show _ < 40 by omega) rfl ?_
        refine v_ri hr1.1 ?_
        refine v_icmp_ge (tgt := 104) C dX9_within_51 (by decide) (fun c_51 => ?_) (fun c_51 => absurd (nI_le (by omega) (by omega)) c_51)
        refine v_iload_n C dX9_within_104 rfl rfl ?_
        refine v_if_eq (tgt := 112) C dX9_within_105 (by decide) (fun c_105 => ?_) (fun c_105 => absurd rfl c_105)
        refine v_iconst (v := 0) C dX9_within_112 (by decide) ?_
        exact v_iret C hr hlk dX9_within_113 (Nat.le_refl _) (Nat.le_refl _) ⟨by rw [hb0 rfl]; rfl, rfl⟩

set_option maxHeartbeats 4000000 in
set_option maxRecDepth 100000 in
theorem m_within_ok (l : Launch) (D : va_G) (B : Nat) (K : Nat → ClassId) (f : St) (r : Nat → Nat) (f0 : St) (A : Nat → Nat → Int32) (L : Nat → Nat → Int64) (I : Nat → Int32) (n : Nat) (hM : MC K r f0 f A L I) (hI0 : I 0 = nI n) (hn40 : n ≤ 40) (sg : Nat → Sg) (l1 l2 : List Ent) (i j : Nat) (hi : i < n) (hj : j < n) (hr1 : RowM A L sg l1 i n) (hr2 : RowM A L sg l2 j n) (hz : L 4 i = sat (prodE sg l1)) : Kc l D B K yX9_within cX9_within 5 ((some .int)) 4 0 0 [.ref (r 0), .int (nI i), .int (nI j)] f (Qi_ D B (fun x f9 => x = bI (wiS sg l1 l2) ∧ f9 = f)) := by
  refine v_met [(0, .ref (r 0)), (1, .int (nI i)), (2, .int (nI j))] (by decide) (Nat.le_of_ble_eq_true rfl) rfl ?_
  intro p e s m args below meth c C hr hlk hin
  have hl1 := hr1.2.2.1
  have hl2 := hr2.2.2.1
  have hw1 := hr1.2.1
  by_cases hlen : l1.length = l2.length
  · by_cases hpz : prodE sg l1 = 0
    · refine v_aload_n C dX9_within_0 rfl rfl ?_
      refine v_iload_n C dX9_within_1 rfl rfl ?_
      refine v_ci (r_V C (m_noRange_ok l D B K _ r f0 A L I n hM hI0 hn40 i hi) dX9_within_2 hM.1 rfl g_ml_X9_101 g_im_yX9_noRange g_se_X9_yX9_noRange_yX9_noRange g_in_X9 g_cd_yX9_noRange (rn_le (by decide)) (by decide) rfl rfl hdn_yX9_noRange (Nat.le_of_ble_eq_true rfl) ⟨Nat.le_of_ble_eq_true rfl, Nat.le_of_ble_eq_true rfl⟩) (fun r_2 f_2 hp_2 => ?_)
      obtain ⟨rfl, hf9⟩ := hp_2
      have hf9 := hf9.symm
      subst hf9
      refine v_if_ne (tgt := 16) C dX9_within_5 (by decide) (fun c_5 => absurd c_5 (by decide)) (fun _ => ?_)
      refine v_aload_n C dX9_within_8 rfl rfl ?_
      refine v_iload_n C dX9_within_9 rfl rfl ?_
      refine v_ci (r_V C (m_noRange_ok l D B K _ r f0 A L I n hM hI0 hn40 j hj) dX9_within_10 hM.1 rfl g_ml_X9_101 g_im_yX9_noRange g_se_X9_yX9_noRange_yX9_noRange g_in_X9 g_cd_yX9_noRange (rn_le (by decide)) (by decide) rfl rfl hdn_yX9_noRange (Nat.le_of_ble_eq_true rfl) ⟨Nat.le_of_ble_eq_true rfl, Nat.le_of_ble_eq_true rfl⟩) (fun r_10 f_10 hp_10 => ?_)
      obtain ⟨rfl, hf9⟩ := hp_10
      have hf9 := hf9.symm
      subst hf9
      refine v_if_eq (tgt := 19) C dX9_within_13 (by decide) (fun _ => ?_) (fun c_13 => absurd c_13 (by decide))
      refine v_aload_n C dX9_within_19 rfl rfl ?_
      refine v_get C dX9_within_20 3 hM.1 rfl in_X9 (by decide) g_fl_X9_16 (fun _ h9 => h9) rfl ?_
      refine v_iload_n C dX9_within_23 rfl rfl ?_
      refine m_ild C hM dX9_within_24 3 i (by decide) (show _ < 40 by omega) rfl ?_
      refine v_ri hr1.1 ?_
      refine v_aload_n C dX9_within_25 rfl rfl ?_
      refine v_get C dX9_within_26 3 hM.1 rfl in_X9 (by decide) g_fl_X9_16 (fun _ h9 => h9) rfl ?_
      refine v_iload_n C dX9_within_29 rfl rfl ?_
      refine m_ild C hM dX9_within_30 3 j (by decide) (show _ < 40 by omega) rfl ?_
      refine v_ri hr2.1 ?_
      refine v_icmp_ne (tgt := 38) C dX9_within_31 (by decide) (fun c_31 => absurd (by rw [hlen]) c_31) (fun c_31 => ?_)
      refine v_iconst (v := 1) C dX9_within_34 (by decide) ?_
      refine v_goto (tgt := 39) C dX9_within_35 (by decide) ?_
      refine v_istore_n C dX9_within_39 rfl (by decide) rfl ?_
      refine v_iconst (v := 0) C dX9_within_40 (by decide) ?_
      refine v_istore C dX9_within_41 (by decide) rfl ?_
      refine v_iload C dX9_within_43 rfl ?_
      refine v_aload_n C dX9_within_45 rfl rfl ?_
      refine v_get C dX9_within_46 3 hM.1 rfl in_X9 (by decide) g_fl_X9_16 (fun _ h9 => h9) rfl ?_
      refine v_iload_n C dX9_within_49 rfl rfl ?_
      refine m_ild C hM dX9_within_50 3 i (by decide) (show _ < 40 by omega) rfl ?_
      refine v_ri hr1.1 ?_
      refine v_icmp_ge (tgt := 104) C dX9_within_51 (by decide) (fun c_51 => absurd c_51 (nI_ge (a := 0) (by omega) (by omega))) (fun c_51 => ?_)
      refine v_iload_n C dX9_within_54 rfl rfl ?_
      refine v_if_eq (tgt := 104) C dX9_within_55 (by decide) (fun c_55 => absurd c_55 (by decide)) (fun _ => ?_)
      refine v_aload_n C dX9_within_58 rfl rfl ?_
      refine v_get C dX9_within_59 4 hM.1 rfl in_X9 (by decide) g_fl_X9_19 (fun _ h9 => h9) rfl ?_
      refine v_iload_n C dX9_within_62 rfl rfl ?_
      refine m_lld C hM dX9_within_63 4 i (by decide) (show _ < 40 by omega) rfl ?_
      refine v_rl hz ?_
      refine v_lconst (v := 0) C dX9_within_64 (by decide) ?_
      refine v_lc_eq (tgt := 104) C dX9_within_65 dX9_within_66 (by decide) (fun c_65 => ?_) (fun c_65 => absurd ((sat_0 _).mpr hpz) c_65)
      refine v_iload_n C dX9_within_104 rfl rfl ?_
      refine v_if_eq (tgt := 112) C dX9_within_105 (by decide) (fun c_105 => absurd c_105 (by decide)) (fun _ => ?_)
      refine v_iconst (v := 1) C dX9_within_108 (by decide) ?_
      refine v_goto (tgt := 113) C dX9_within_109 (by decide) ?_
      exact v_iret C hr hlk dX9_within_113 (Nat.le_refl _) (Nat.le_refl _) ⟨by unfold wiS; rw [decide_eq_true hlen, decide_eq_true hpz]; rfl, rfl⟩
    · refine v_aload_n C dX9_within_0 rfl rfl ?_
      refine v_iload_n C dX9_within_1 rfl rfl ?_
      refine v_ci (r_V C (m_noRange_ok l D B K _ r f0 A L I n hM hI0 hn40 i hi) dX9_within_2 hM.1 rfl g_ml_X9_101 g_im_yX9_noRange g_se_X9_yX9_noRange_yX9_noRange g_in_X9 g_cd_yX9_noRange (rn_le (by decide)) (by decide) rfl rfl hdn_yX9_noRange (Nat.le_of_ble_eq_true rfl) ⟨Nat.le_of_ble_eq_true rfl, Nat.le_of_ble_eq_true rfl⟩) (fun r_2 f_2 hp_2 => ?_)
      obtain ⟨rfl, hf9⟩ := hp_2
      have hf9 := hf9.symm
      subst hf9
      refine v_if_ne (tgt := 16) C dX9_within_5 (by decide) (fun c_5 => absurd c_5 (by decide)) (fun _ => ?_)
      refine v_aload_n C dX9_within_8 rfl rfl ?_
      refine v_iload_n C dX9_within_9 rfl rfl ?_
      refine v_ci (r_V C (m_noRange_ok l D B K _ r f0 A L I n hM hI0 hn40 j hj) dX9_within_10 hM.1 rfl g_ml_X9_101 g_im_yX9_noRange g_se_X9_yX9_noRange_yX9_noRange g_in_X9 g_cd_yX9_noRange (rn_le (by decide)) (by decide) rfl rfl hdn_yX9_noRange (Nat.le_of_ble_eq_true rfl) ⟨Nat.le_of_ble_eq_true rfl, Nat.le_of_ble_eq_true rfl⟩) (fun r_10 f_10 hp_10 => ?_)
      obtain ⟨rfl, hf9⟩ := hp_10
      have hf9 := hf9.symm
      subst hf9
      refine v_if_eq (tgt := 19) C dX9_within_13 (by decide) (fun _ => ?_) (fun c_13 => absurd c_13 (by decide))
      refine v_aload_n C dX9_within_19 rfl rfl ?_
      refine v_get C dX9_within_20 3 hM.1 rfl in_X9 (by decide) g_fl_X9_16 (fun _ h9 => h9) rfl ?_
      refine v_iload_n C dX9_within_23 rfl rfl ?_
      refine m_ild C hM dX9_within_24 3 i (by decide) (show _ < 40 by omega) rfl ?_
      refine v_ri hr1.1 ?_
      refine v_aload_n C dX9_within_25 rfl rfl ?_
      refine v_get C dX9_within_26 3 hM.1 rfl in_X9 (by decide) g_fl_X9_16 (fun _ h9 => h9) rfl ?_
      refine v_iload_n C dX9_within_29 rfl rfl ?_
      refine m_ild C hM dX9_within_30 3 j (by decide) (show _ < 40 by omega) rfl ?_
      refine v_ri hr2.1 ?_
      refine v_icmp_ne (tgt := 38) C dX9_within_31 (by decide) (fun c_31 => absurd (by rw [hlen]) c_31) (fun c_31 => ?_)
      refine v_iconst (v := 1) C dX9_within_34 (by decide) ?_
      refine v_goto (tgt := 39) C dX9_within_35 (by decide) ?_
      refine v_istore_n C dX9_within_39 rfl (by decide) rfl ?_
      refine v_iconst (v := 0) C dX9_within_40 (by decide) ?_
      refine v_istore C dX9_within_41 (by decide) rfl ?_
      refine v_loc [(0, .ref (r 0)), (1, .int (nI i)), (2, .int (nI j)), (3, .int (bI true)), (4, .int (nI 0))] (lsub_c rfl (lsub_c rfl (lsub_c rfl (lsub_c rfl (lsub_c rfl lsub_n))))) ?_
      exact L_within9 C hr hlk f r f0 A L I n hM hI0 hn40 sg l1 l2 i j hi hj hr1 hr2 hz hlen hpz (l1.length + 1) 0 true (Nat.zero_le _) (by omega) (fun _ j9 hj9 => by omega) (fun h9 => by cases h9)
  · refine v_aload_n C dX9_within_0 rfl rfl ?_
    refine v_iload_n C dX9_within_1 rfl rfl ?_
    refine v_ci (r_V C (m_noRange_ok l D B K _ r f0 A L I n hM hI0 hn40 i hi) dX9_within_2 hM.1 rfl g_ml_X9_101 g_im_yX9_noRange g_se_X9_yX9_noRange_yX9_noRange g_in_X9 g_cd_yX9_noRange (rn_le (by decide)) (by decide) rfl rfl hdn_yX9_noRange (Nat.le_of_ble_eq_true rfl) ⟨Nat.le_of_ble_eq_true rfl, Nat.le_of_ble_eq_true rfl⟩) (fun r_2 f_2 hp_2 => ?_)
    obtain ⟨rfl, hf9⟩ := hp_2
    have hf9 := hf9.symm
    subst hf9
    refine v_if_ne (tgt := 16) C dX9_within_5 (by decide) (fun c_5 => absurd c_5 (by decide)) (fun _ => ?_)
    refine v_aload_n C dX9_within_8 rfl rfl ?_
    refine v_iload_n C dX9_within_9 rfl rfl ?_
    refine v_ci (r_V C (m_noRange_ok l D B K _ r f0 A L I n hM hI0 hn40 j hj) dX9_within_10 hM.1 rfl g_ml_X9_101 g_im_yX9_noRange g_se_X9_yX9_noRange_yX9_noRange g_in_X9 g_cd_yX9_noRange (rn_le (by decide)) (by decide) rfl rfl hdn_yX9_noRange (Nat.le_of_ble_eq_true rfl) ⟨Nat.le_of_ble_eq_true rfl, Nat.le_of_ble_eq_true rfl⟩) (fun r_10 f_10 hp_10 => ?_)
    obtain ⟨rfl, hf9⟩ := hp_10
    have hf9 := hf9.symm
    subst hf9
    refine v_if_eq (tgt := 19) C dX9_within_13 (by decide) (fun _ => ?_) (fun c_13 => absurd c_13 (by decide))
    refine v_aload_n C dX9_within_19 rfl rfl ?_
    refine v_get C dX9_within_20 3 hM.1 rfl in_X9 (by decide) g_fl_X9_16 (fun _ h9 => h9) rfl ?_
    refine v_iload_n C dX9_within_23 rfl rfl ?_
    refine m_ild C hM dX9_within_24 3 i (by decide) (show _ < 40 by omega) rfl ?_
    refine v_ri hr1.1 ?_
    refine v_aload_n C dX9_within_25 rfl rfl ?_
    refine v_get C dX9_within_26 3 hM.1 rfl in_X9 (by decide) g_fl_X9_16 (fun _ h9 => h9) rfl ?_
    refine v_iload_n C dX9_within_29 rfl rfl ?_
    refine m_ild C hM dX9_within_30 3 j (by decide) (show _ < 40 by omega) rfl ?_
    refine v_ri hr2.1 ?_
    refine v_icmp_ne (tgt := 38) C dX9_within_31 (by decide) (fun c_31 => ?_) (fun c_31 => absurd c_31 (fun h9 => hlen ((nI_eq (by omega) (by omega)).mp h9)))
    refine v_iconst (v := 0) C dX9_within_38 (by decide) ?_
    refine v_istore_n C dX9_within_39 rfl (by decide) rfl ?_
    refine v_iconst (v := 0) C dX9_within_40 (by decide) ?_
    refine v_istore C dX9_within_41 (by decide) rfl ?_
    refine v_iload C dX9_within_43 rfl ?_
    refine v_aload_n C dX9_within_45 rfl rfl ?_
    refine v_get C dX9_within_46 3 hM.1 rfl in_X9 (by decide) g_fl_X9_16 (fun _ h9 => h9) rfl ?_
    refine v_iload_n C dX9_within_49 rfl rfl ?_
    refine m_ild C hM dX9_within_50 3 i (by decide) (show _ < 40 by omega) rfl ?_
    refine v_ri hr1.1 ?_
    refine v_icmp_ge (tgt := 104) C dX9_within_51 (by decide) (fun c_51 => absurd c_51 (nI_ge (a := 0) (by omega) (by omega))) (fun c_51 => ?_)
    refine v_iload_n C dX9_within_54 rfl rfl ?_
    refine v_if_eq (tgt := 104) C dX9_within_55 (by decide) (fun _ => ?_) (fun c_55 => absurd c_55 (by decide))
    refine v_iload_n C dX9_within_104 rfl rfl ?_
    refine v_if_eq (tgt := 112) C dX9_within_105 (by decide) (fun _ => ?_) (fun c_105 => absurd c_105 (by decide))
    refine v_iconst (v := 0) C dX9_within_112 (by decide) ?_
    exact v_iret C hr hlk dX9_within_113 (Nat.le_refl _) (Nat.le_refl _) ⟨by unfold wiS; rw [decide_eq_false hlen]; rfl, rfl⟩

