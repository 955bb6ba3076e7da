/-! the reference: sizes, places, what is copied -/
theorem up1_id {α : Type} (A : Nat → α) (k : Nat) : up1 A k (A k) = A := by
  funext j
  by_cases h : j = k
  · subst h; rw [up1_self]
  · rw [up1_ne _ _ h]
theorem up1_up1 {α : Type} (A : Nat → α) (k : Nat) (g g2 : α) : up1 (up1 A k g) k g2 = up1 A k g2 := by
  funext j
  by_cases h : j = k
  · subst h; rw [up1_self, up1_self]
  · rw [up1_ne _ _ h, up1_ne _ _ h, up1_ne _ _ h]
theorem prodE_c (sg : Nat → Sg) (e : Ent) (t : List Ent) : prodE sg (e :: t) = cntS (sg e.1) * prodE sg t := rfl
theorem filG_e {sg : Nat → Sg} {e : Ent} {a k : Nat} {g : Nat → Int64} : filG sg [e] a k g = vp_updL g a (valS (sg e.1) (digE sg e k)) := by
  funext j
  unfold filG vp_updL
  by_cases h : j = a
  · subst h
    rw [if_pos ⟨Nat.le_refl _, by simp⟩, if_pos rfl, Nat.sub_self]
    show valS (sg e.1) (digE sg e (k / 1)) = _
    rw [Nat.div_one]
  · rw [if_neg (by simp; omega), if_neg h]
def bx2 (u b : Int32) : Int32 := if u = b then 0 else 1
def TK (A A2 : Nat → Nat → Int32) (n at9 o w : Nat) (b : Int32) : Prop :=
  (∀ k, k ≠ 8 → k ≠ 9 → k ≠ 10 → A2 k = A k) ∧ (∀ j, j < 8 * n + at9 ∨ 8 * n + at9 + w ≤ j → A2 8 j = A 8 j ∧ A2 9 j = A 9 j ∧ A2 10 j = A 10 j) ∧
  ∀ k, k < w → A2 8 (8 * n + at9 + k) = A 8 (8 * o + k) ∧ A2 9 (8 * n + at9 + k) = bx2 (A 9 (8 * o + k)) b ∧ A2 10 (8 * n + at9 + k) = A 10 (8 * o + k) + 1
theorem TK.step {A A2 : Nat → Nat → Int32} {n at9 o k : Nat} {b : Int32} (h : TK A A2 n at9 o k b) (ho : o < n) (hk : at9 + k < 8) (hk2 : k < 8) : TK A (up1 (up1 (up1 A2 8 (upd (A2 8) (8 * n + at9 + k) (A2 8 (8 * o + k)))) 9 (upd (A2 9) (8 * n + at9 + k) (bx2 (A2 9 (8 * o + k)) b))) 10 (upd (A2 10) (8 * n + at9 + k) (A2 10 (8 * o + k) + 1))) n at9 o (k + 1) b := by
  obtain ⟨h1, h2, h3⟩ := h
  obtain ⟨s8, s9, s10⟩ := h2 (8 * o + k) (by omega)
  refine ⟨fun j j8 j9 j10 => by rw [up1_ne _ _ j10, up1_ne _ _ j9, up1_ne _ _ j8]; exact h1 j j8 j9 j10, fun j hj => ?_, fun j hj => ?_⟩
  · have hne : j ≠ 8 * n + at9 + k := by omega
    obtain ⟨t8, t9, t10⟩ := h2 j (by omega)
    rw [up1_self, up1_ne _ _ (show 8 ≠ 10 by decide), up1_ne _ _ (show 9 ≠ 10 by decide), up1_ne _ _ (show 8 ≠ 9 by decide), up1_self, up1_self, pk_un hne, pk_un hne, pk_un hne]
    exact ⟨t8, t9, t10⟩
  · rw [up1_self, up1_ne _ _ (show 8 ≠ 10 by decide), up1_ne _ _ (show 9 ≠ 10 by decide), up1_ne _ _ (show 8 ≠ 9 by decide), up1_self, up1_self]
    by_cases e : j = k
    · subst e
      rw [pk_us, pk_us, pk_us, s8, s9, s10]
      exact ⟨rfl, rfl, rfl⟩
    · rw [pk_un (by omega), pk_un (by omega), pk_un (by omega)]
      exact h3 j (by omega)
set_option maxHeartbeats 4000000 in
set_option maxRecDepth 100000 in
theorem L_sizeOf {p : Program} {l : Launch} {e : Env} {s : State} {m : MethodId} {args : Array Value} {below : List Frame} {meth : Method} {c : Code} {D : va_G} {B : Nat} {K : Nat → ClassId} (C : Cx p s m args c cX9_sizeOf 8 yX9_sizeOf.cls D B K) (hr : meth.sig.returnType = (some .long)) (hlk : meth.locks = false) (f : St) (r : Nat → Nat) (f0 : St) (A : Nat → Nat → Int32) (L : Nat → Nat → Int64) (I : Nat → Int32) (sg : Nat → Sg) (l9 : List Ent) (i n : Nat) (hM : MC K r f0 f A L I) (hrow : RowM A L sg l9 i n) (hi : i < 40) (hn : n ≤ 40) : ∀ (n9 k acc : Nat) (b : Int32), k ≤ l9.length → l9.length + 1 ≤ k + n9 → prodE sg l9 = acc * prodE sg (l9.drop k) → (b = 0 ∨ b = 1 ∧ prodE sg l9 = 0) → V p l e (RM 2 0 0) s m args below meth c D B 8 (MQ below (Ql_ D B (fun x f9 => x = sat (prodE sg l9) ∧ f9 = f)) args s 0 0 (AB B)) 0 0 f (lof [(0, .ref (r 0)), (1, .int (nI i)), (2, .int b), (3, .long (sat acc)), (5, .int (nI k))]) 7 [] := by
  obtain ⟨w1, w2, w3, w4⟩ := hrow
  intro n9
  induction n9 with
  | zero => intro k acc b h1 h2; omega
  | succ n9 ih =>
    intro k acc b hk hin hpr hb
    by_cases hlt : k < l9.length
    · have he9 : l9[k]? = some l9[k] := List.getElem?_eq_getElem hlt
      obtain ⟨q8, q9, q10, qn, qsg, qok, qz⟩ := w4 k l9[k] he9
      generalize he : l9[k] = e9 at he9 q8 q9 q10 qn qsg qok qz
      have hdr : l9.drop k = e9 :: l9.drop (k + 1) := by rw [← he]; exact List.drop_eq_getElem_cons hlt
      rw [hdr, prodE_c] at hpr
      rcases hb with rfl | ⟨rfl, hb0⟩
      · by_cases hc0 : cntS (sg e9.1) = 0
        · refine v_iload C dX9_sizeOf_7 rfl ?_
          refine v_aload_n C dX9_sizeOf_9 rfl rfl ?_
          refine v_get C dX9_sizeOf_10 3 hM.1 rfl in_X9 (by decide) g_fl_X9_16 (fun _ h9 => h9) rfl ?_
          refine v_iload_n C dX9_sizeOf_13 rfl rfl ?_
          refine m_ild C hM dX9_sizeOf_14 3 i (by decide) (show _ < 40 by omega) rfl ?_
          refine v_ri w1 ?_
          refine v_icmp_ge (tgt := 67) C dX9_sizeOf_15 (by decide) (fun c_15 => absurd c_15 (nI_ge hlt (by omega))) (fun c_15 => ?_)
          refine v_aload_n C dX9_sizeOf_18 rfl rfl ?_
          refine v_get C dX9_sizeOf_19 4 hM.1 rfl in_X9 (by decide) g_fl_X9_19 (fun _ h9 => h9) rfl ?_
          refine v_aload_n C dX9_sizeOf_22 rfl rfl ?_
          refine v_get C dX9_sizeOf_23 8 hM.1 rfl in_X9 (by decide) g_fl_X9_32 (fun _ h9 => h9) rfl ?_
          refine v_bipush (v := 8) C dX9_sizeOf_26 (by decide) ?_
          refine v_iload_n C dX9_sizeOf_28 rfl rfl ?_
          refine v_imul C dX9_sizeOf_29 ?_
          refine v_iload C dX9_sizeOf_30 rfl ?_
          refine v_iadd C dX9_sizeOf_32 ?_
          refine m_ild C hM dX9_sizeOf_33 8 ((8 * i) + k) (by decide) (show _ < 320 by omega) (by simp only [← nI_add, ← pk_mul]; rfl) ?_
          refine v_ri q8 ?_
          refine m_lld C hM dX9_sizeOf_34 4 (e9.1) (by decide) (show _ < 40 by omega) rfl ?_
          refine v_rl qz ?_
          refine v_lstore C dX9_sizeOf_35 (by decide) rfl ?_
          refine v_iload_n C dX9_sizeOf_37 rfl rfl ?_
          refine v_if_ne (tgt := 48) C dX9_sizeOf_38 (by decide) (fun c_38 => absurd c_38 (by decide)) (fun _ => ?_)
          refine v_lload C dX9_sizeOf_41 rfl ?_
          refine v_lconst (v := 0) C dX9_sizeOf_43 (by decide) ?_
          refine v_lc_ne (tgt := 52) C dX9_sizeOf_44 dX9_sizeOf_45 (by decide) (fun c_44 => absurd ((sat_0 _).mpr hc0) c_44) (fun c_44 => ?_)
          refine v_iconst (v := 1) C dX9_sizeOf_48 (by decide) ?_
          refine v_goto (tgt := 53) C dX9_sizeOf_49 (by decide) ?_
          refine v_istore_n C dX9_sizeOf_53 rfl (by decide) rfl ?_
          refine v_lload_n C dX9_sizeOf_54 rfl rfl ?_
          refine v_lload C dX9_sizeOf_55 rfl ?_
          refine v_cl (r_S C (m_times l D B K _ _ _) dX9_sizeOf_57 g_ml_X9_97 g_st_yX9_times g_in_X9 g_cd_yX9_times (rn_le (by decide)) (by decide) rfl hdn_yX9_times (Nat.le_of_ble_eq_true rfl) ⟨Nat.le_of_ble_eq_true rfl, Nat.le_of_ble_eq_true rfl⟩) (fun r_57 f_57 hp_57 => ?_)
          obtain ⟨rfl, hf9⟩ := hp_57
          have hf9 := hf9.symm
          subst hf9
          refine v_rl ((tmM_eq _ _).trans (tm_sat _ _)) ?_
          refine v_lstore_n C dX9_sizeOf_60 rfl (by decide) rfl ?_
          refine v_iinc (y := 1) C dX9_sizeOf_61 rfl (by decide) (by decide) rfl ?_
          refine v_goto (tgt := 7) C dX9_sizeOf_64 (by decide) ?_
          refine v_loc [(0, .ref (r 0)), (1, .int (nI i)), (2, .int 1), (3, .long (sat (acc * cntS (sg e9.1)))), (5, .int (nI (k + 1)))] (lsub_c rfl (lsub_c rfl (lsub_c rfl (lsub_c rfl (lsub_c (by rw [nI_succ]; rfl) lsub_n))))) ?_
          exact ih (k + 1) _ 1 hlt (by omega) (by rw [hpr, Nat.mul_assoc]) (Or.inr ⟨rfl, by rw [hpr, hc0, Nat.zero_mul, Nat.mul_zero]⟩)
        · refine v_iload C dX9_sizeOf_7 rfl ?_
          refine v_aload_n C dX9_sizeOf_9 rfl rfl ?_
          refine v_get C dX9_sizeOf_10 3 hM.1 rfl in_X9 (by decide) g_fl_X9_16 (fun _ h9 => h9) rfl ?_
          refine v_iload_n C dX9_sizeOf_13 rfl rfl ?_
          refine m_ild C hM dX9_sizeOf_14 3 i (by decide) (show _ < 40 by omega) rfl ?_
          refine v_ri w1 ?_
          refine v_icmp_ge (tgt := 67) C dX9_sizeOf_15 (by decide) (fun c_15 => absurd c_15 (nI_ge hlt (by omega))) (fun c_15 => ?_)
          refine v_aload_n C dX9_sizeOf_18 rfl rfl ?_
          refine v_get C dX9_sizeOf_19 4 hM.1 rfl in_X9 (by decide) g_fl_X9_19 (fun _ h9 => h9) rfl ?_
          refine v_aload_n C dX9_sizeOf_22 rfl rfl ?_
          refine v_get C dX9_sizeOf_23 8 hM.1 rfl in_X9 (by decide) g_fl_X9_32 (fun _ h9 => h9) rfl ?_
          refine v_bipush (v := 8) C dX9_sizeOf_26 (by decide) ?_
          refine v_iload_n C dX9_sizeOf_28 rfl rfl ?_
          refine v_imul C dX9_sizeOf_29 ?_
          refine v_iload C dX9_sizeOf_30 rfl ?_
          refine v_iadd C dX9_sizeOf_32 ?_
          refine m_ild C hM dX9_sizeOf_33 8 ((8 * i) + k) (by decide) (show _ < 320 by omega) (by simp only [← nI_add, ← pk_mul]; rfl) ?_
          refine v_ri q8 ?_
          refine m_lld C hM dX9_sizeOf_34 4 (e9.1) (by decide) (show _ < 40 by omega) rfl ?_
          refine v_rl qz ?_
          refine v_lstore C dX9_sizeOf_35 (by decide) rfl ?_
          refine v_iload_n C dX9_sizeOf_37 rfl rfl ?_
          refine v_if_ne (tgt := 48) C dX9_sizeOf_38 (by decide) (fun c_38 => absurd c_38 (by decide)) (fun _ => ?_)
          refine v_lload C dX9_sizeOf_41 rfl ?_
          refine v_lconst (v := 0) C dX9_sizeOf_43 (by decide) ?_
          refine v_lc_ne (tgt := 52) C dX9_sizeOf_44 dX9_sizeOf_45 (by decide) (fun c_44 => ?_) (fun c_44 => absurd c_44 (fun h9 => hc0 ((sat_0 _).mp h9)))
          refine v_iconst (v := 0) C dX9_sizeOf_52 (by decide) ?_
          refine v_istore_n C dX9_sizeOf_53 rfl (by decide) rfl ?_
          refine v_lload_n C dX9_sizeOf_54 rfl rfl ?_
          refine v_lload C dX9_sizeOf_55 rfl ?_
          refine v_cl (r_S C (m_times l D B K _ _ _) dX9_sizeOf_57 g_ml_X9_97 g_st_yX9_times g_in_X9 g_cd_yX9_times (rn_le (by decide)) (by decide) rfl hdn_yX9_times (Nat.le_of_ble_eq_true rfl) ⟨Nat.le_of_ble_eq_true rfl, Nat.le_of_ble_eq_true rfl⟩) (fun r_57 f_57 hp_57 => ?_)
          obtain ⟨rfl, hf9⟩ := hp_57
          have hf9 := hf9.symm
          subst hf9
          refine v_rl ((tmM_eq _ _).trans (tm_sat _ _)) ?_
          refine v_lstore_n C dX9_sizeOf_60 rfl (by decide) rfl ?_
          refine v_iinc (y := 1) C dX9_sizeOf_61 rfl (by decide) (by decide) rfl ?_
          refine v_goto (tgt := 7) C dX9_sizeOf_64 (by decide) ?_
          refine v_loc [(0, .ref (r 0)), (1, .int (nI i)), (2, .int 0), (3, .long (sat (acc * cntS (sg e9.1)))), (5, .int (nI (k + 1)))] (lsub_c rfl (lsub_c rfl (lsub_c rfl (lsub_c rfl (lsub_c (by rw [nI_succ]; rfl) lsub_n))))) ?_
          exact ih (k + 1) _ 0 hlt (by omega) (by rw [hpr, Nat.mul_assoc]) (Or.inl rfl)
      · refine v_iload C dX9_sizeOf_7 rfl ?_
        refine v_aload_n C dX9_sizeOf_9 rfl rfl ?_
        refine v_get C dX9_sizeOf_10 3 hM.1 rfl in_X9 (by decide) g_fl_X9_16 (fun _ h9 => h9) rfl ?_
        refine v_iload_n C dX9_sizeOf_13 rfl rfl ?_
        refine m_ild C hM dX9_sizeOf_14 3 i (by decide) (show _ < 40 by omega) rfl ?_
        refine v_ri w1 ?_
        refine v_icmp_ge (tgt := 67) C dX9_sizeOf_15 (by decide) (fun c_15 => absurd c_15 (nI_ge hlt (by omega))) (fun c_15 => ?_)
        refine v_aload_n C dX9_sizeOf_18 rfl rfl ?_
        refine v_get C dX9_sizeOf_19 4 hM.1 rfl in_X9 (by decide) g_fl_X9_19 (fun _ h9 => h9) rfl ?_
        refine v_aload_n C dX9_sizeOf_22 rfl rfl ?_
        refine v_get C dX9_sizeOf_23 8 hM.1 rfl in_X9 (by decide) g_fl_X9_32 (fun _ h9 => h9) rfl ?_
        refine v_bipush (v := 8) C dX9_sizeOf_26 (by decide) ?_
        refine v_iload_n C dX9_sizeOf_28 rfl rfl ?_
        refine v_imul C dX9_sizeOf_29 ?_
        refine v_iload C dX9_sizeOf_30 rfl ?_
        refine v_iadd C dX9_sizeOf_32 ?_
        refine m_ild C hM dX9_sizeOf_33 8 ((8 * i) + k) (by decide) (show _ < 320 by omega) (by simp only [← nI_add, ← pk_mul]; rfl) ?_
        refine v_ri q8 ?_
        refine m_lld C hM dX9_sizeOf_34 4 (e9.1) (by decide) (show _ < 40 by omega) rfl ?_
        refine v_rl qz ?_
        refine v_lstore C dX9_sizeOf_35 (by decide) rfl ?_
        refine v_iload_n C dX9_sizeOf_37 rfl rfl ?_
        refine v_if_ne (tgt := 48) C dX9_sizeOf_38 (by decide) (fun _ => ?_) (fun c_38 => absurd c_38 (by decide))
        refine v_iconst (v := 1) C dX9_sizeOf_48 (by decide) ?_
        refine v_goto (tgt := 53) C dX9_sizeOf_49 (by decide) ?_
        refine v_istore_n C dX9_sizeOf_53 rfl (by decide) rfl ?_
        refine v_lload_n C dX9_sizeOf_54 rfl rfl ?_
        refine v_lload C dX9_sizeOf_55 rfl ?_
        refine v_cl (r_S C (m_times l D B K _ _ _) dX9_sizeOf_57 g_ml_X9_97 g_st_yX9_times g_in_X9 g_cd_yX9_times (rn_le (by decide)) (by decide) rfl hdn_yX9_times (Nat.le_of_ble_eq_true rfl) ⟨Nat.le_of_ble_eq_true rfl, Nat.le_of_ble_eq_true rfl⟩) (fun r_57 f_57 hp_57 => ?_)
        obtain ⟨rfl, hf9⟩ := hp_57
        have hf9 := hf9.symm
        subst hf9
        refine v_rl ((tmM_eq _ _).trans (tm_sat _ _)) ?_
        refine v_lstore_n C dX9_sizeOf_60 rfl (by decide) rfl ?_
        refine v_iinc (y := 1) C dX9_sizeOf_61 rfl (by decide) (by decide) rfl ?_
        refine v_goto (tgt := 7) C dX9_sizeOf_64 (by decide) ?_
        refine v_loc [(0, .ref (r 0)), (1, .int (nI i)), (2, .int 1), (3, .long (sat (acc * cntS (sg e9.1)))), (5, .int (nI (k + 1)))] (lsub_c rfl (lsub_c rfl (lsub_c rfl (lsub_c rfl (lsub_c (by rw [nI_succ]; rfl) lsub_n))))) ?_
        exact ih (k + 1) _ 1 hlt (by omega) (by rw [hpr, Nat.mul_assoc]) (Or.inr ⟨rfl, hb0⟩)
    · have hke : l9.drop k = [] := List.drop_eq_nil_of_le (by omega)
      rw [hke] at hpr
      rcases hb with rfl | ⟨rfl, hb0⟩
      · refine v_iload C dX9_sizeOf_7 rfl ?_
        refine v_aload_n C dX9_sizeOf_9 rfl rfl ?_
        refine v_get C dX9_sizeOf_10 3 hM.1 rfl in_X9 (by decide) g_fl_X9_16 (fun _ h9 => h9) rfl ?_
        refine v_iload_n C dX9_sizeOf_13 rfl rfl ?_
        refine m_ild C hM dX9_sizeOf_14 3 i (by decide) (show _ < 40 by omega) rfl ?_
        refine v_ri w1 ?_
        refine v_icmp_ge (tgt := 67) C dX9_sizeOf_15 (by decide) (fun c_15 => ?_) (fun c_15 => absurd (nI_le (by omega) (by omega)) c_15)
        refine v_iload_n C dX9_sizeOf_67 rfl rfl ?_
        refine v_if_eq (tgt := 75) C dX9_sizeOf_68 (by decide) (fun _ => ?_) (fun c_68 => absurd c_68 (by decide))
        refine v_lload_n C dX9_sizeOf_75 rfl rfl ?_
        exact v_lret C hr hlk dX9_sizeOf_76 (Nat.le_refl _) (Nat.le_refl _) ⟨by rw [hpr]; show sat acc = sat (acc * 1); rw [Nat.mul_one], rfl⟩
      · refine v_iload C dX9_sizeOf_7 rfl ?_
        refine v_aload_n C dX9_sizeOf_9 rfl rfl ?_
        refine v_get C dX9_sizeOf_10 3 hM.1 rfl in_X9 (by decide) g_fl_X9_16 (fun _ h9 => h9) rfl ?_
        refine v_iload_n C dX9_sizeOf_13 rfl rfl ?_
        refine m_ild C hM dX9_sizeOf_14 3 i (by decide) (show _ < 40 by omega) rfl ?_
        refine v_ri w1 ?_
        refine v_icmp_ge (tgt := 67) C dX9_sizeOf_15 (by decide) (fun c_15 => ?_) (fun c_15 => absurd (nI_le (by omega) (by omega)) c_15)
        refine v_iload_n C dX9_sizeOf_67 rfl rfl ?_
        refine v_if_eq (tgt := 75) C dX9_sizeOf_68 (by decide) (fun c_68 => absurd c_68 (by decide)) (fun _ => ?_)
        refine v_lconst (v := 0) C dX9_sizeOf_71 (by decide) ?_
        refine v_goto (tgt := 76) C dX9_sizeOf_72 (by decide) ?_
        exact v_lret C hr hlk dX9_sizeOf_76 (Nat.le_refl _) (Nat.le_refl _) ⟨by rw [hb0]; rfl, rfl⟩

set_option maxHeartbeats 4000000 in
set_option maxRecDepth 100000 in
theorem m_sizeOf (l : Launch) (D : va_G) (B : Nat) (K : Nat → ClassId) (f : St) (r : Nat → Nat) (f0 : St) (A : Nat → Nat → Int32) (L : Nat → Nat → Int64) (I : Nat → Int32) (sg : Nat → Sg) (l9 : List Ent) (i n : Nat) (hM : MC K r f0 f A L I) (hrow : RowM A L sg l9 i n) (hi : i < 40) (hn : n ≤ 40) : Kc l D B K yX9_sizeOf cX9_sizeOf 8 ((some .long)) 2 0 0 [.ref (r 0), .int (nI i)] f (Ql_ D B (fun x f9 => x = sat (prodE sg l9) ∧ f9 = f)) := by
  refine v_met [(0, .ref (r 0)), (1, .int (nI i))] (by decide) (Nat.le_of_ble_eq_true rfl) rfl ?_
  intro p e s m args below meth c C hr hlk hin
  refine v_iconst (v := 0) C dX9_sizeOf_0 (by decide) ?_
  refine v_istore_n C dX9_sizeOf_1 rfl (by decide) rfl ?_
  refine v_lconst (v := 1) C dX9_sizeOf_2 (by decide) ?_
  refine v_lstore_n C dX9_sizeOf_3 rfl (by decide) rfl ?_
  refine v_iconst (v := 0) C dX9_sizeOf_4 (by decide) ?_
  refine v_istore C dX9_sizeOf_5 (by decide) rfl ?_
  refine v_loc [(0, .ref (r 0)), (1, .int (nI i)), (2, .int 0), (3, .long (sat 1)), (5, .int (nI 0))] (lsub_c rfl (lsub_c rfl (lsub_c rfl (lsub_c rfl (lsub_c rfl lsub_n))))) ?_
  exact L_sizeOf C hr hlk f r f0 A L I sg l9 i n hM hrow hi hn (l9.length + 1) 0 1 0 (Nat.zero_le _) (by omega) (Nat.one_mul _).symm (Or.inl rfl)

set_option maxHeartbeats 4000000 in
set_option maxRecDepth 100000 in
theorem m_begin (l : Launch) (D : va_G) (B : Nat) (K : Nat → ClassId) (f : St) (r : Nat → Nat) (f0 : St) (A : Nat → Nat → Int32) (L : Nat → Nat → Int64) (I : Nat → Int32) (n : Nat) (kd pa wi : Int32) (hM : MC K r f0 f A L I) (hI0 : I 0 = nI n) (hn : n < 40) : Kc l D B K yX9_begin cX9_begin 5 ((some .int)) 2 0 0 [.ref (r 0), .int kd, .int pa, .int wi] f (Qi_ D B (fun x f9 => x = nI n ∧ MC K r f0 f9 (up1 (up1 (up1 A 1 (upd (A 1) n kd)) 2 (upd (A 2) n pa)) 3 (upd (A 3) n wi)) L (up1 I 0 (nI (n + 1))))) := by
  refine v_met [(0, .ref (r 0)), (1, .int kd), (2, .int pa), (3, .int wi)] (by decide) (Nat.le_of_ble_eq_true rfl) rfl ?_
  intro p e s m args below meth c C hr hlk hin
  refine v_aload_n C dX9_begin_0 rfl rfl ?_
  refine v_get C dX9_begin_1 0 hM.1 rfl in_X9 (by decide) g_fl_X9_54 (fun _ h9 => h9) rfl ?_
  refine v_ri hI0 ?_
  refine v_istore C dX9_begin_4 (by decide) rfl ?_
  refine v_aload_n C dX9_begin_6 rfl rfl ?_
  refine v_get C dX9_begin_7 1 hM.1 rfl in_X9 (by decide) g_fl_X9_7 (fun _ h9 => h9) rfl ?_
  refine v_iload C dX9_begin_10 rfl ?_
  refine v_iload_n C dX9_begin_12 rfl rfl ?_
  refine m_ist C hM dX9_begin_13 1 n (by decide) (show _ < 40 by omega) rfl (fun f hM => ?_)
  refine v_aload_n C dX9_begin_14 rfl rfl ?_
  refine v_get C dX9_begin_15 2 hM.1 rfl in_X9 (by decide) g_fl_X9_13 (fun _ h9 => h9) rfl ?_
  refine v_iload C dX9_begin_18 rfl ?_
  refine v_iload_n C dX9_begin_20 rfl rfl ?_
  refine m_ist C hM dX9_begin_21 2 n (by decide) (show _ < 40 by omega) rfl (fun f hM => ?_)
  refine v_aload_n C dX9_begin_22 rfl rfl ?_
  refine v_get C dX9_begin_23 3 hM.1 rfl in_X9 (by decide) g_fl_X9_16 (fun _ h9 => h9) rfl ?_
  refine v_iload C dX9_begin_26 rfl ?_
  refine v_iload_n C dX9_begin_28 rfl rfl ?_
  refine m_ist C hM dX9_begin_29 3 n (by decide) (show _ < 40 by omega) rfl (fun f hM => ?_)
  refine v_aload_n C dX9_begin_30 rfl rfl ?_
  refine v_dup C dX9_begin_31 rfl ?_
  refine v_get C dX9_begin_32 0 hM.1 rfl in_X9 (by decide) g_fl_X9_54 (fun _ h9 => h9) rfl ?_
  refine v_iconst (v := 1) C dX9_begin_35 (by decide) ?_
  refine v_iadd C dX9_begin_36 ?_
  refine v_ri (show I 0 + 1 = nI (n + 1) by rw [hI0, nI_1]) ?_
  refine m_put C hM dX9_begin_37 0 (by decide) g_fl_X9_54 (fun f hM => ?_)
  refine v_iload C dX9_begin_40 rfl ?_
  exact v_iret C hr hlk dX9_begin_42 (Nat.le_refl _) (Nat.le_refl _) ⟨rfl, hM⟩

def hpM (sz k : Int64) : Int32 := if k < (0 : Int64) then ((0 : Int32)) else if sz = (-1 : Int64) then ((1 : Int32)) else if sz ≤ k then ((0 : Int32)) else ((1 : Int32))
set_option maxHeartbeats 4000000 in
set_option maxRecDepth 100000 in
theorem m_hasPlace0 (l : Launch) (D : va_G) (B : Nat) (K : Nat → ClassId) (f : St) (r : Nat → Nat) (f0 : St) (A : Nat → Nat → Int32) (L : Nat → Nat → Int64) (I : Nat → Int32) (i : Nat) (k : Int64) (hM : MC K r f0 f A L I) (hi : i < 40) : Kc l D B K yX9_hasPlace cX9_hasPlace 4 ((some .boolean)) 2 0 0 [.ref (r 0), .int (nI i), .long k] f (Qi_ D B (fun x f9 => x = hpM (L 4 i) k ∧ f9 = f)) := by
  refine v_met [(0, .ref (r 0)), (1, .int (nI i)), (2, .long k)] (by decide) (Nat.le_of_ble_eq_true rfl) rfl ?_
  intro p e s m args below meth c C hr hlk hin
  refine v_lload_n C dX9_hasPlace_0 rfl rfl ?_
  refine v_lconst (v := 0) C dX9_hasPlace_1 (by decide) ?_
  refine v_lc_lt (tgt := 34) C dX9_hasPlace_2 dX9_hasPlace_3 (by decide) (fun c_2 => ?_) (fun c_2 => ?_)
  · refine v_iconst (v := 0) C dX9_hasPlace_34 (by decide) ?_
    exact v_zret C hr hlk dX9_hasPlace_35 rfl (Nat.le_refl _) (Nat.le_refl _) ⟨by unfold hpM; rw [if_pos c_2], rfl⟩
  · refine v_aload_n C dX9_hasPlace_6 rfl rfl ?_
    refine v_get C dX9_hasPlace_7 4 hM.1 rfl in_X9 (by decide) g_fl_X9_19 (fun _ h9 => h9) rfl ?_
    refine v_iload_n C dX9_hasPlace_10 rfl rfl ?_
    refine m_lld C hM dX9_hasPlace_11 4 i (by decide) (show _ < 40 by omega) rfl ?_
    refine v_ldc2 C dX9_hasPlace_12 g_kl_X9_68 ?_
    refine v_lc_eq (tgt := 30) C dX9_hasPlace_15 dX9_hasPlace_16 (by decide) (fun c_15 => ?_) (fun c_15 => ?_)
    · refine v_iconst (v := 1) C dX9_hasPlace_30 (by decide) ?_
      refine v_goto (tgt := 35) C dX9_hasPlace_31 (by decide) ?_
      exact v_zret C hr hlk dX9_hasPlace_35 rfl (Nat.le_refl _) (Nat.le_refl _) ⟨by unfold hpM; rw [if_neg c_2, if_pos c_15], rfl⟩
    · refine v_lload_n C dX9_hasPlace_19 rfl rfl ?_
      refine v_aload_n C dX9_hasPlace_20 rfl rfl ?_
      refine v_get C dX9_hasPlace_21 4 hM.1 rfl in_X9 (by decide) g_fl_X9_19 (fun _ h9 => h9) rfl ?_
      refine v_iload_n C dX9_hasPlace_24 rfl rfl ?_
      refine m_lld C hM dX9_hasPlace_25 4 i (by decide) (show _ < 40 by omega) rfl ?_
      refine v_lc_ge (tgt := 34) C dX9_hasPlace_26 dX9_hasPlace_27 (by decide) (fun c_26 => ?_) (fun c_26 => ?_)
      · refine v_iconst (v := 0) C dX9_hasPlace_34 (by decide) ?_
        exact v_zret C hr hlk dX9_hasPlace_35 rfl (Nat.le_refl _) (Nat.le_refl _) ⟨by unfold hpM; rw [if_neg c_2, if_neg c_15, if_pos c_26], rfl⟩
      · refine v_iconst (v := 1) C dX9_hasPlace_30 (by decide) ?_
        refine v_goto (tgt := 35) C dX9_hasPlace_31 (by decide) ?_
        exact v_zret C hr hlk dX9_hasPlace_35 rfl (Nat.le_refl _) (Nat.le_refl _) ⟨by unfold hpM; rw [if_neg c_2, if_neg c_15, if_neg c_26], rfl⟩

set_option maxHeartbeats 4000000 in
set_option maxRecDepth 100000 in
theorem L_take {p : Program} {l : Launch} {e : Env} {s : State} {m : MethodId} {args : Array Value} {below : List Frame} {meth : Method} {c : Code} {D : va_G} {B : Nat} {K : Nat → ClassId} (C : Cx p s m args c cX9_take 6 yX9_take.cls D B K) (hr : meth.sig.returnType = none) (hlk : meth.locks = false) (r : Nat → Nat) (f0 : St) (A : Nat → Nat → Int32) (L : Nat → Nat → Int64) (I : Nat → Int32) (n at9 o w : Nat) (b : Int32) (hw : A 3 o = nI w) (hw8 : at9 + w ≤ 8) (ho : o < n) (hn : n < 40) : ∀ (n9 k : Nat) (f : St) (A2 : Nat → Nat → Int32), k ≤ w → w + 1 ≤ k + n9 → MC K r f0 f A2 L I → TK A A2 n at9 o k b → V p l e (RM 2 0 0) s m args below meth c D B 6 (MQ below (Qv_ D B (fun f9 => ∃ A2, MC K r f0 f9 A2 L I ∧ TK A A2 n at9 o w b)) args s 0 0 (AB B)) 0 0 f (lof [(0, .ref (r 0)), (1, .int (nI n)), (2, .int (nI at9)), (3, .int (nI o)), (4, .int b), (5, .int (nI k))]) 3 [] := by
  intro n9
  induction n9 with
  | zero => intro k f A2 h1 h2; omega
  | succ n9 ih =>
    intro k f A2 hk hin hM hT
    have w1 : A2 3 o = nI w := by rw [hT.1 3 (by decide) (by decide) (by decide)]; exact hw
    by_cases hlt : k < w
    · by_cases hb : A2 9 (8 * o + k) = b
      · refine v_iload C dX9_take_3 rfl ?_
        refine v_aload_n C dX9_take_5 rfl rfl ?_
        refine v_get C dX9_take_6 3 hM.1 rfl in_X9 (by decide) g_fl_X9_16 (fun _ h9 => h9) rfl ?_
        refine v_iload_n C dX9_take_9 rfl rfl ?_
        refine m_ild C hM dX9_take_10 3 o (by decide) (show _ < 40 by omega) rfl ?_
        refine v_ri w1 ?_
        refine v_icmp_ge (tgt := 110) C dX9_take_11 (by decide) (fun c_11 => absurd c_11 (nI_ge hlt (by omega))) (fun c_11 => ?_)
        refine v_aload_n C dX9_take_14 rfl rfl ?_
        refine v_get C dX9_take_15 8 hM.1 rfl in_X9 (by decide) g_fl_X9_32 (fun _ h9 => h9) rfl ?_
        refine v_bipush (v := 8) C dX9_take_18 (by decide) ?_
        refine v_iload_n C dX9_take_20 rfl rfl ?_
        refine v_imul C dX9_take_21 ?_
        refine v_iload_n C dX9_take_22 rfl rfl ?_
        refine v_iadd C dX9_take_23 ?_
        refine v_iload C dX9_take_24 rfl ?_
        refine v_iadd C dX9_take_26 ?_
        refine v_aload_n C dX9_take_27 rfl rfl ?_
        refine v_get C dX9_take_28 8 hM.1 rfl in_X9 (by decide) g_fl_X9_32 (fun _ h9 => h9) rfl ?_
        refine v_bipush (v := 8) C dX9_take_31 (by decide) ?_
        refine v_iload_n C dX9_take_33 rfl rfl ?_
        refine v_imul C dX9_take_34 ?_
        refine v_iload C dX9_take_35 rfl ?_
        refine v_iadd C dX9_take_37 ?_
        refine m_ild C hM dX9_take_38 8 ((8 * o) + k) (by decide) (show _ < 320 by omega) (by simp only [← nI_add, ← pk_mul]; rfl) ?_
        refine m_ist C hM dX9_take_39 8 (((8 * n) + at9) + k) (by decide) (show _ < 320 by omega) (by simp only [← nI_add, ← pk_mul]; rfl) (fun f hM => ?_)
        refine v_aload_n C dX9_take_40 rfl rfl ?_
        refine v_get C dX9_take_41 9 hM.1 rfl in_X9 (by decide) g_fl_X9_35 (fun _ h9 => h9) rfl ?_
        refine v_bipush (v := 8) C dX9_take_44 (by decide) ?_
        refine v_iload_n C dX9_take_46 rfl rfl ?_
        refine v_imul C dX9_take_47 ?_
        refine v_iload_n C dX9_take_48 rfl rfl ?_
        refine v_iadd C dX9_take_49 ?_
        refine v_iload C dX9_take_50 rfl ?_
        refine v_iadd C dX9_take_52 ?_
        refine v_aload_n C dX9_take_53 rfl rfl ?_
        refine v_get C dX9_take_54 9 hM.1 rfl in_X9 (by decide) g_fl_X9_35 (fun _ h9 => h9) rfl ?_
        refine v_bipush (v := 8) C dX9_take_57 (by decide) ?_
        refine v_iload_n C dX9_take_59 rfl rfl ?_
        refine v_imul C dX9_take_60 ?_
        refine v_iload C dX9_take_61 rfl ?_
        refine v_iadd C dX9_take_63 ?_
        refine m_zld C hM dX9_take_64 ((8 * o) + k) (show _ < 320 by omega) (by simp only [← nI_add, ← pk_mul]; rfl) ?_
        refine v_iload C dX9_take_65 rfl ?_
        refine v_icmp_eq (tgt := 74) C dX9_take_67 (by decide) (fun c_67 => ?_) (fun c_67 => absurd hb c_67)
        refine v_iconst (v := 0) C dX9_take_74 (by decide) ?_
        refine m_zst C hM dX9_take_75 (((8 * n) + at9) + k) (show _ < 320 by omega) (by simp only [← nI_add, ← pk_mul]; rfl) rfl (fun f hM => ?_)
        refine v_aload_n C dX9_take_76 rfl rfl ?_
        refine v_get C dX9_take_77 10 hM.1 rfl in_X9 (by decide) g_fl_X9_39 (fun _ h9 => h9) rfl ?_
        refine v_bipush (v := 8) C dX9_take_80 (by decide) ?_
        refine v_iload_n C dX9_take_82 rfl rfl ?_
        refine v_imul C dX9_take_83 ?_
        refine v_iload_n C dX9_take_84 rfl rfl ?_
        refine v_iadd C dX9_take_85 ?_
        refine v_iload C dX9_take_86 rfl ?_
        refine v_iadd C dX9_take_88 ?_
        refine v_aload_n C dX9_take_89 rfl rfl ?_
        refine v_get C dX9_take_90 10 hM.1 rfl in_X9 (by decide) g_fl_X9_39 (fun _ h9 => h9) rfl ?_
        refine v_bipush (v := 8) C dX9_take_93 (by decide) ?_
        refine v_iload_n C dX9_take_95 rfl rfl ?_
        refine v_imul C dX9_take_96 ?_
        refine v_iload C dX9_take_97 rfl ?_
        refine v_iadd C dX9_take_99 ?_
        refine m_ild C hM dX9_take_100 10 ((8 * o) + k) (by decide) (show _ < 320 by omega) (by simp only [← nI_add, ← pk_mul]; rfl) ?_
        refine v_iconst (v := 1) C dX9_take_101 (by decide) ?_
        refine v_iadd C dX9_take_102 ?_
        refine m_ist C hM dX9_take_103 10 (((8 * n) + at9) + k) (by decide) (show _ < 320 by omega) (by simp only [← nI_add, ← pk_mul]; rfl) (fun f hM => ?_)
        refine v_iinc (y := 1) C dX9_take_104 rfl (by decide) (by decide) rfl ?_
        refine v_goto (tgt := 3) C dX9_take_107 (by decide) ?_
        refine v_loc [(0, .ref (r 0)), (1, .int (nI n)), (2, .int (nI at9)), (3, .int (nI o)), (4, .int b), (5, .int (nI (k + 1)))] (lsub_c rfl (lsub_c rfl (lsub_c rfl (lsub_c rfl (lsub_c rfl (lsub_c (by rw [nI_succ]; rfl) lsub_n)))))) ?_
        have hT2 := hT.step (b := b) ho (by omega) (by omega)
        rw [show bx2 (A2 9 (8 * o + k)) b = 0 from if_pos hb] at hT2
        exact ih (k + 1) f _ hlt (by omega) hM hT2
      · refine v_iload C dX9_take_3 rfl ?_
        refine v_aload_n C dX9_take_5 rfl rfl ?_
        refine v_get C dX9_take_6 3 hM.1 rfl in_X9 (by decide) g_fl_X9_16 (fun _ h9 => h9) rfl ?_
        refine v_iload_n C dX9_take_9 rfl rfl ?_
        refine m_ild C hM dX9_take_10 3 o (by decide) (show _ < 40 by omega) rfl ?_
        refine v_ri w1 ?_
        refine v_icmp_ge (tgt := 110) C dX9_take_11 (by decide) (fun c_11 => absurd c_11 (nI_ge hlt (by omega))) (fun c_11 => ?_)
        refine v_aload_n C dX9_take_14 rfl rfl ?_
        refine v_get C dX9_take_15 8 hM.1 rfl in_X9 (by decide) g_fl_X9_32 (fun _ h9 => h9) rfl ?_
        refine v_bipush (v := 8) C dX9_take_18 (by decide) ?_
        refine v_iload_n C dX9_take_20 rfl rfl ?_
        refine v_imul C dX9_take_21 ?_
        refine v_iload_n C dX9_take_22 rfl rfl ?_
        refine v_iadd C dX9_take_23 ?_
        refine v_iload C dX9_take_24 rfl ?_
        refine v_iadd C dX9_take_26 ?_
        refine v_aload_n C dX9_take_27 rfl rfl ?_
        refine v_get C dX9_take_28 8 hM.1 rfl in_X9 (by decide) g_fl_X9_32 (fun _ h9 => h9) rfl ?_
        refine v_bipush (v := 8) C dX9_take_31 (by decide) ?_
        refine v_iload_n C dX9_take_33 rfl rfl ?_
        refine v_imul C dX9_take_34 ?_
        refine v_iload C dX9_take_35 rfl ?_
        refine v_iadd C dX9_take_37 ?_
        refine m_ild C hM dX9_take_38 8 ((8 * o) + k) (by decide) (show _ < 320 by omega) (by simp only [← nI_add, ← pk_mul]; rfl) ?_
        refine m_ist C hM dX9_take_39 8 (((8 * n) + at9) + k) (by decide) (show _ < 320 by omega) (by simp only [← nI_add, ← pk_mul]; rfl) (fun f hM => ?_)
        refine v_aload_n C dX9_take_40 rfl rfl ?_
        refine v_get C dX9_take_41 9 hM.1 rfl in_X9 (by decide) g_fl_X9_35 (fun _ h9 => h9) rfl ?_
        refine v_bipush (v := 8) C dX9_take_44 (by decide) ?_
        refine v_iload_n C dX9_take_46 rfl rfl ?_
        refine v_imul C dX9_take_47 ?_
        refine v_iload_n C dX9_take_48 rfl rfl ?_
        refine v_iadd C dX9_take_49 ?_
        refine v_iload C dX9_take_50 rfl ?_
        refine v_iadd C dX9_take_52 ?_
        refine v_aload_n C dX9_take_53 rfl rfl ?_
        refine v_get C dX9_take_54 9 hM.1 rfl in_X9 (by decide) g_fl_X9_35 (fun _ h9 => h9) rfl ?_
        refine v_bipush (v := 8) C dX9_take_57 (by decide) ?_
        refine v_iload_n C dX9_take_59 rfl rfl ?_
        refine v_imul C dX9_take_60 ?_
        refine v_iload C dX9_take_61 rfl ?_
        refine v_iadd C dX9_take_63 ?_
        refine m_zld C hM dX9_take_64 ((8 * o) + k) (show _ < 320 by omega) (by simp only [← nI_add, ← pk_mul]; rfl) ?_
        refine v_iload C dX9_take_65 rfl ?_
        refine v_icmp_eq (tgt := 74) C dX9_take_67 (by decide) (fun c_67 => absurd c_67 hb) (fun c_67 => ?_)
        refine v_iconst (v := 1) C dX9_take_70 (by decide) ?_
        refine v_goto (tgt := 75) C dX9_take_71 (by decide) ?_
        refine m_zst C hM dX9_take_75 (((8 * n) + at9) + k) (show _ < 320 by omega) (by simp only [← nI_add, ← pk_mul]; rfl) rfl (fun f hM => ?_)
        refine v_aload_n C dX9_take_76 rfl rfl ?_
        refine v_get C dX9_take_77 10 hM.1 rfl in_X9 (by decide) g_fl_X9_39 (fun _ h9 => h9) rfl ?_
        refine v_bipush (v := 8) C dX9_take_80 (by decide) ?_
        refine v_iload_n C dX9_take_82 rfl rfl ?_
        refine v_imul C dX9_take_83 ?_
        refine v_iload_n C dX9_take_84 rfl rfl ?_
        refine v_iadd C dX9_take_85 ?_
        refine v_iload C dX9_take_86 rfl ?_
        refine v_iadd C dX9_take_88 ?_
        refine v_aload_n C dX9_take_89 rfl rfl ?_
        refine v_get C dX9_take_90 10 hM.1 rfl in_X9 (by decide) g_fl_X9_39 (fun _ h9 => h9) rfl ?_
        refine v_bipush (v := 8) C dX9_take_93 (by decide) ?_
        refine v_iload_n C dX9_take_95 rfl rfl ?_
        refine v_imul C dX9_take_96 ?_
        refine v_iload C dX9_take_97 rfl ?_
        refine v_iadd C dX9_take_99 ?_
        refine m_ild C hM dX9_take_100 10 ((8 * o) + k) (by decide) (show _ < 320 by omega) (by simp only [← nI_add, ← pk_mul]; rfl) ?_
        refine v_iconst (v := 1) C dX9_take_101 (by decide) ?_
        refine v_iadd C dX9_take_102 ?_
        refine m_ist C hM dX9_take_103 10 (((8 * n) + at9) + k) (by decide) (show _ < 320 by omega) (by simp only [← nI_add, ← pk_mul]; rfl) (fun f hM => ?_)
        refine v_iinc (y := 1) C dX9_take_104 rfl (by decide) (by decide) rfl ?_
        refine v_goto (tgt := 3) C dX9_take_107 (by decide) ?_
        refine v_loc [(0, .ref (r 0)), (1, .int (nI n)), (2, .int (nI at9)), (3, .int (nI o)), (4, .int b), (5, .int (nI (k + 1)))] (lsub_c rfl (lsub_c rfl (lsub_c rfl (lsub_c rfl (lsub_c rfl (lsub_c (by rw [nI_succ]; rfl) lsub_n)))))) ?_
        have hT2 := hT.step (b := b) ho (by omega) (by omega)
        rw [show bx2 (A2 9 (8 * o + k)) b = 1 from if_neg hb] at hT2
        exact ih (k + 1) f _ hlt (by omega) hM hT2
    · refine v_iload C dX9_take_3 rfl ?_
      refine v_aload_n C dX9_take_5 rfl rfl ?_
      refine v_get C dX9_take_6 3 hM.1 rfl in_X9 (by decide) g_fl_X9_16 (fun _ h9 => h9) rfl ?_
      refine v_iload_n C dX9_take_9 rfl rfl ?_
      refine m_ild C hM dX9_take_10 3 o (by decide) (show _ < 40 by omega) rfl ?_
      refine v_ri w1 ?_
      refine v_icmp_ge (tgt := 110) C dX9_take_11 (by decide) (fun c_11 => ?_) (fun c_11 => absurd (nI_le (by omega) (by omega)) c_11)
      exact v_vret C hr hlk dX9_take_110 (Nat.le_refl _) (Nat.le_refl _) ⟨A2, hM, by rw [show w = k by omega]; exact hT⟩

set_option maxHeartbeats 4000000 in
set_option maxRecDepth 100000 in
theorem m_take (l : Launch) (D : va_G) (B : Nat) (K : Nat → ClassId) (f : St) (r : Nat → Nat) (f0 : St) (A : Nat → Nat → Int32) (L : Nat → Nat → Int64) (I : Nat → Int32) (n at9 o w : Nat) (b : Int32) (hw : A 3 o = nI w) (hw8 : at9 + w ≤ 8) (ho : o < n) (hn : n < 40) (hM : MC K r f0 f A L I) : Kc l D B K yX9_take cX9_take 6 (none) 2 0 0 [.ref (r 0), .int (nI n), .int (nI at9), .int (nI o), .int b] f (Qv_ D B (fun f9 => ∃ A2, MC K r f0 f9 A2 L I ∧ TK A A2 n at9 o w b)) := by
  refine v_met [(0, .ref (r 0)), (1, .int (nI n)), (2, .int (nI at9)), (3, .int (nI o)), (4, .int b)] (by decide) (Nat.le_of_ble_eq_true rfl) rfl ?_
  intro p e s m args below meth c C hr hlk hin
  refine v_iconst (v := 0) C dX9_take_0 (by decide) ?_
  refine v_istore C dX9_take_1 (by decide) rfl ?_
  refine v_loc [(0, .ref (r 0)), (1, .int (nI n)), (2, .int (nI at9)), (3, .int (nI o)), (4, .int b), (5, .int (nI 0))] (lsub_c rfl (lsub_c rfl (lsub_c rfl (lsub_c rfl (lsub_c rfl (lsub_c rfl lsub_n)))))) ?_
  exact L_take C hr hlk r f0 A L I n at9 o w b hw hw8 ho hn (w + 1) 0 f A (Nat.zero_le _) (by omega) hM ⟨fun _ _ _ _ => rfl, fun _ _ => ⟨rfl, rfl, rfl⟩, fun k hk => by omega⟩

