/-! the reference: rows of singles -/
def RowM (A : Nat → Nat → Int32) (L : Nat → Nat → Int64) (sg : Nat → Sg) (l : List Ent) (i n : Nat) : Prop := A 3 i = nI l.length ∧ 1 ≤ l.length ∧ l.length ≤ 8 ∧ ∀ k e, l[k]? = some e → A 8 (8 * i + k) = nI e.1 ∧ A 9 (8 * i + k) = bI e.2.1 ∧ A 10 (8 * i + k) = nI e.2.2 ∧ e.1 < n ∧ sgM A L e.1 = sg e.1 ∧ okS (sg e.1) ∧ L 4 e.1 = sat (cntS (sg e.1))
theorem missE_c (sg : Nat → Sg) (h : Nat → Int64) (e : Ent) (t : List Ent) (j : Nat) : missE sg h (e :: t) j = if (posS (sg e.1) (h j)).isSome then missE sg h t (j + 1) else some (j, e) := rfl
theorem idxE_c (sg : Nat → Sg) (h : Nat → Int64) (e : Ent) (t : List Ent) (j acc : Nat) : idxE sg h (e :: t) j acc = idxE sg h t (j + 1) (acc * cntS (sg e.1) + digE sg e ((posS (sg e.1) (h j)).getD 0)) := rfl
def missI (I : Nat → Int32) (k : Nat) (e : Ent) : Nat → Int32 := up1 (up1 (up1 (up1 (up1 I 13 1) 14 (nI e.1)) 15 (nI k)) 16 (nI e.2.2)) 17 (I 17 + 1)
theorem nr_in {i n : Nat} (hi : i < n) (hn : n ≤ 40) : ¬ inM (nI i).toInt64 0 (nI n - 1).toInt64 = 0 := by
  rw [in_0, i2l_toInt, i2l_toInt, nI_toInt (by omega), show (nI n - 1) = nI (n - 1) from pk_sub (b := 1) (by omega), nI_toInt (by omega)]
  have z : (0 : Int64).toInt = 0 := rfl
  rw [z]
  omega
theorem nr_out {x : Int32} {n : Nat} (hx : x < 0 ∨ nI n ≤ x) (hn : n ≤ 40) : inM x.toInt64 0 (nI n - 1).toInt64 = 0 := by
  rw [in_0, i2l_toInt, i2l_toInt]
  have z : (0 : Int64).toInt = 0 := rfl
  have z2 : (0 : Int32).toInt = 0 := rfl
  have e1 : (nI n - 1).toInt = (n : Int) - 1 := by
    have h := pk_sub_toInt (a := n) (b := 1) (by omega) (by omega)
    exact h
  rw [z, e1]
  rcases hx with h | h
  · rw [Int32.lt_iff_toInt_lt] at h; omega
  · rw [Int32.le_iff_toInt_le, nI_toInt (by omega)] at h; omega
set_option maxHeartbeats 4000000 in
set_option maxRecDepth 100000 in
theorem m_noRange_ok (l : Launch) (D : va_G) (B : Nat) (K : Nat → ClassId) (f : St) (r : Nat → Nat) (f0 : St) (A : Nat → Nat → Int32) (L : Nat → Nat → Int64) (I : Nat → Int32) (n : Nat) (hM : MC K r f0 f A L I) (hI0 : I 0 = nI n) (hn : n ≤ 40) (i : Nat) (hi : i < n) : Kc l D B K yX9_noRange cX9_noRange 2 ((some .boolean)) 2 0 0 [.ref (r 0), .int (nI i)] f (Qi_ D B (fun x f9 => x = 0 ∧ f9 = f)) := by
  refine v_met [(0, .ref (r 0)), (1, .int (nI i))] (by decide) (Nat.le_of_ble_eq_true rfl) rfl ?_
  intro p e s m args below meth c C hr hlk hin
  refine v_iload_n C dX9_noRange_0 rfl rfl ?_
  refine v_i2l C dX9_noRange_1 ?_
  refine v_lconst (v := 0) C dX9_noRange_2 (by decide) ?_
  refine v_aload_n C dX9_noRange_3 rfl rfl ?_
  refine v_get C dX9_noRange_4 0 hM.1 rfl in_X9 (by decide) g_fl_X9_54 (fun _ h9 => h9) rfl ?_
  refine v_ri hI0 ?_
  refine v_iconst (v := 1) C dX9_noRange_7 (by decide) ?_
  refine v_isub C dX9_noRange_8 ?_
  refine v_i2l C dX9_noRange_9 ?_
  refine v_ci (r_S C (m_in l D B K _ _ _ _) dX9_noRange_10 g_ml_X9_58 g_st_yX9_in g_in_X9 g_cd_yX9_in (rn_le (by decide)) (by decide) rfl hdn_yX9_in (Nat.le_of_ble_eq_true rfl) ⟨Nat.le_of_ble_eq_true rfl, Nat.le_of_ble_eq_true rfl⟩) (fun r_10 f_10 hp_10 => ?_)
  obtain ⟨rfl, hf9⟩ := hp_10
  have hf9 := hf9.symm
  subst hf9
  refine v_if_ne (tgt := 20) C dX9_noRange_13 (by decide) (fun c_13 => ?_) (fun c_13 => absurd c_13 (nr_in hi hn))
  refine v_iconst (v := 0) C dX9_noRange_20 (by decide) ?_
  exact v_zret C hr hlk dX9_noRange_21 rfl (Nat.le_refl _) (Nat.le_refl _) ⟨rfl, rfl⟩

set_option maxHeartbeats 4000000 in
set_option maxRecDepth 100000 in
theorem m_noRange_bad (l : Launch) (D : va_G) (B : Nat) (K : Nat → ClassId) (f : St) (r : Nat → Nat) (f0 : St) (A : Nat → Nat → Int32) (L : Nat → Nat → Int64) (I : Nat → Int32) (n : Nat) (hM : MC K r f0 f A L I) (hI0 : I 0 = nI n) (hn : n ≤ 40) (x : Int32) (hx : x < 0 ∨ nI n ≤ x) : Kc l D B K yX9_noRange cX9_noRange 2 ((some .boolean)) 2 0 0 [.ref (r 0), .int x] f (Qi_ D B (fun x f9 => x = 1 ∧ f9 = f)) := by
  refine v_met [(0, .ref (r 0)), (1, .int x)] (by decide) (Nat.le_of_ble_eq_true rfl) rfl ?_
  intro p e s m args below meth c C hr hlk hin
  refine v_iload_n C dX9_noRange_0 rfl rfl ?_
  refine v_i2l C dX9_noRange_1 ?_
  refine v_lconst (v := 0) C dX9_noRange_2 (by decide) ?_
  refine v_aload_n C dX9_noRange_3 rfl rfl ?_
  refine v_get C dX9_noRange_4 0 hM.1 rfl in_X9 (by decide) g_fl_X9_54 (fun _ h9 => h9) rfl ?_
  refine v_ri hI0 ?_
  refine v_iconst (v := 1) C dX9_noRange_7 (by decide) ?_
  refine v_isub C dX9_noRange_8 ?_
  refine v_i2l C dX9_noRange_9 ?_
  refine v_ci (r_S C (m_in l D B K _ _ _ _) dX9_noRange_10 g_ml_X9_58 g_st_yX9_in g_in_X9 g_cd_yX9_in (rn_le (by decide)) (by decide) rfl hdn_yX9_in (Nat.le_of_ble_eq_true rfl) ⟨Nat.le_of_ble_eq_true rfl, Nat.le_of_ble_eq_true rfl⟩) (fun r_10 f_10 hp_10 => ?_)
  obtain ⟨rfl, hf9⟩ := hp_10
  have hf9 := hf9.symm
  subst hf9
  refine v_if_ne (tgt := 20) C dX9_noRange_13 (by decide) (fun c_13 => absurd (nr_out hx hn) c_13) (fun c_13 => ?_)
  refine v_iconst (v := 1) C dX9_noRange_16 (by decide) ?_
  refine v_goto (tgt := 21) C dX9_noRange_17 (by decide) ?_
  exact v_zret C hr hlk dX9_noRange_21 rfl (Nat.le_refl _) (Nat.le_refl _) ⟨rfl, rfl⟩

set_option maxHeartbeats 4000000 in
set_option maxRecDepth 100000 in
theorem m_noArray_ok (l : Launch) (D : va_G) (B : Nat) (K : Nat → ClassId) (f : St) (r : Nat → Nat) (f0 : St) (A : Nat → Nat → Int32) (L : Nat → Nat → Int64) (I : Nat → Int32) (n : Nat) (hM : MC K r f0 f A L I) (hI0 : I 18 = nI n) (hn : n ≤ 40) (i : Nat) (hi : i < n) : Kc l D B K yX9_noArray cX9_noArray 2 ((some .boolean)) 2 0 0 [.ref (r 0), .int (nI i)] f (Qi_ D B (fun x f9 => x = 0 ∧ f9 = f)) := by
  refine v_met [(0, .ref (r 0)), (1, .int (nI i))] (by decide) (Nat.le_of_ble_eq_true rfl) rfl ?_
  intro p e s m args below meth c C hr hlk hin
  refine v_iload_n C dX9_noArray_0 rfl rfl ?_
  refine v_i2l C dX9_noArray_1 ?_
  refine v_lconst (v := 0) C dX9_noArray_2 (by decide) ?_
  refine v_aload_n C dX9_noArray_3 rfl rfl ?_
  refine v_get C dX9_noArray_4 18 hM.1 rfl in_X9 (by decide) g_fl_X9_62 (fun _ h9 => h9) rfl ?_
  refine v_ri hI0 ?_
  refine v_iconst (v := 1) C dX9_noArray_7 (by decide) ?_
  refine v_isub C dX9_noArray_8 ?_
  refine v_i2l C dX9_noArray_9 ?_
  refine v_ci (r_S C (m_in l D B K _ _ _ _) dX9_noArray_10 g_ml_X9_58 g_st_yX9_in g_in_X9 g_cd_yX9_in (rn_le (by decide)) (by decide) rfl hdn_yX9_in (Nat.le_of_ble_eq_true rfl) ⟨Nat.le_of_ble_eq_true rfl, Nat.le_of_ble_eq_true rfl⟩) (fun r_10 f_10 hp_10 => ?_)
  obtain ⟨rfl, hf9⟩ := hp_10
  have hf9 := hf9.symm
  subst hf9
  refine v_if_ne (tgt := 20) C dX9_noArray_13 (by decide) (fun c_13 => ?_) (fun c_13 => absurd c_13 (nr_in hi hn))
  refine v_iconst (v := 0) C dX9_noArray_20 (by decide) ?_
  exact v_zret C hr hlk dX9_noArray_21 rfl (Nat.le_refl _) (Nat.le_refl _) ⟨rfl, rfl⟩

set_option maxHeartbeats 4000000 in
set_option maxRecDepth 100000 in
theorem m_noArray_bad (l : Launch) (D : va_G) (B : Nat) (K : Nat → ClassId) (f : St) (r : Nat → Nat) (f0 : St) (A : Nat → Nat → Int32) (L : Nat → Nat → Int64) (I : Nat → Int32) (n : Nat) (hM : MC K r f0 f A L I) (hI0 : I 18 = nI n) (hn : n ≤ 40) (x : Int32) (hx : x < 0 ∨ nI n ≤ x) : Kc l D B K yX9_noArray cX9_noArray 2 ((some .boolean)) 2 0 0 [.ref (r 0), .int x] f (Qi_ D B (fun x f9 => x = 1 ∧ f9 = f)) := by
  refine v_met [(0, .ref (r 0)), (1, .int x)] (by decide) (Nat.le_of_ble_eq_true rfl) rfl ?_
  intro p e s m args below meth c C hr hlk hin
  refine v_iload_n C dX9_noArray_0 rfl rfl ?_
  refine v_i2l C dX9_noArray_1 ?_
  refine v_lconst (v := 0) C dX9_noArray_2 (by decide) ?_
  refine v_aload_n C dX9_noArray_3 rfl rfl ?_
  refine v_get C dX9_noArray_4 18 hM.1 rfl in_X9 (by decide) g_fl_X9_62 (fun _ h9 => h9) rfl ?_
  refine v_ri hI0 ?_
  refine v_iconst (v := 1) C dX9_noArray_7 (by decide) ?_
  refine v_isub C dX9_noArray_8 ?_
  refine v_i2l C dX9_noArray_9 ?_
  refine v_ci (r_S C (m_in l D B K _ _ _ _) dX9_noArray_10 g_ml_X9_58 g_st_yX9_in g_in_X9 g_cd_yX9_in (rn_le (by decide)) (by decide) rfl hdn_yX9_in (Nat.le_of_ble_eq_true rfl) ⟨Nat.le_of_ble_eq_true rfl, Nat.le_of_ble_eq_true rfl⟩) (fun r_10 f_10 hp_10 => ?_)
  obtain ⟨rfl, hf9⟩ := hp_10
  have hf9 := hf9.symm
  subst hf9
  refine v_if_ne (tgt := 20) C dX9_noArray_13 (by decide) (fun c_13 => absurd (nr_out hx hn) c_13) (fun c_13 => ?_)
  refine v_iconst (v := 1) C dX9_noArray_16 (by decide) ?_
  refine v_goto (tgt := 21) C dX9_noArray_17 (by decide) ?_
  exact v_zret C hr hlk dX9_noArray_21 rfl (Nat.le_refl _) (Nat.le_refl _) ⟨rfl, rfl⟩

set_option maxHeartbeats 4000000 in
set_option maxRecDepth 100000 in
theorem m_thrown (l : Launch) (D : va_G) (B : Nat) (K : Nat → ClassId) (f : St) (r : Nat → Nat) (f0 : St) (A : Nat → Nat → Int32) (L : Nat → Nat → Int64) (I : Nat → Int32) (hM : MC K r f0 f A L I) : Kc l D B K yX9_thrown cX9_thrown 1 ((some .int)) 4 0 0 [.ref (r 0)] f (Qi_ D B (fun x f9 => x = I 21 ∧ f9 = f)) := by
  refine v_met [(0, .ref (r 0))] (by decide) (Nat.le_of_ble_eq_true rfl) rfl ?_
  intro p e s m args below meth c C hr hlk hin
  refine v_aload_n C dX9_thrown_0 rfl rfl ?_
  refine v_get C dX9_thrown_1 21 hM.1 rfl in_X9 (by decide) g_fl_X9_65 (fun _ h9 => h9) rfl ?_
  exact v_iret C hr hlk dX9_thrown_4 (Nat.le_refl _) (Nat.le_refl _) ⟨rfl, rfl⟩

set_option maxHeartbeats 4000000 in
set_option maxRecDepth 100000 in
theorem L_isHeld {p : Program} {l : Launch} {e : Env} {s : State} {m : MethodId} {args : Array Value} {below : List Frame} {meth : Method} {c : Code} {D : va_G} {B : Nat} {K : Nat → ClassId} (C : Cx p s m args c cX9_isHeld 4 yX9_isHeld.cls D B K) (hr : meth.sig.returnType = (some .boolean)) (hlk : meth.locks = false) (f : St) (r : Nat → Nat) (f0 : St) (A : Nat → Nat → Int32) (L : Nat → Nat → Int64) (I : Nat → Int32) (sg : Nat → Sg) (l9 : List Ent) (i n : Nat) (hM : MC K r f0 f A L I) (hrow : RowM A L sg l9 i n) (hi : i < 40) (hn : n ≤ 40) {post : Int32 → St → Prop} (hp1 : missE sg (L 11) l9 0 = none → post 1 f) (hp2 : ∀ k9 e9 f9, missE sg (L 11) l9 0 = some (k9, e9) → MC K r f0 f9 A L (missI I k9 e9) → post 0 f9) : ∀ (n9 k : Nat), k ≤ l9.length → l9.length + 1 ≤ k + n9 → missE sg (L 11) l9 0 = missE sg (L 11) (l9.drop k) k → V p l e (RM 2 0 0) s m args below meth c D B 4 (MQ below (Qi_ D B post) args s 0 0 (AB B)) 0 0 f (lof [(0, .ref (r 0)), (1, .int (nI i)), (2, .int (nI k))]) 2 [] := by
  obtain ⟨w1, w2, w3, w4⟩ := hrow
  intro n9
  induction n9 with
  | zero => intro k h1 h2; omega
  | succ n9 ih =>
    intro k hk hin hmi
    by_cases hlt : k < l9.length
    · have he9 : l9[k]? = some l9[k] := List.getElem?_eq_getElem hlt
      obtain ⟨q8, q9, q10, qn, qsg, qok, qz⟩ := w4 k l9[k] he9
      generalize he : l9[k] = e9 at he9 q8 q9 q10 qn qsg qok qz
      have hdr : l9.drop k = e9 :: l9.drop (k + 1) := by rw [← he]; exact List.drop_eq_getElem_cons hlt
      rw [hdr] at hmi
      rw [missE_c] at hmi
      cases hp : (posS (sg e9.1) (L 11 k)).isSome with
      | true =>
        rw [if_pos hp] at hmi
        refine v_iload_n C dX9_isHeld_2 rfl rfl ?_
        refine v_aload_n C dX9_isHeld_3 rfl rfl ?_
        refine v_get C dX9_isHeld_4 3 hM.1 rfl in_X9 (by decide) g_fl_X9_16 (fun _ h9 => h9) rfl ?_
        refine v_iload_n C dX9_isHeld_7 rfl rfl ?_
        refine m_ild C hM dX9_isHeld_8 3 i (by decide) (show _ < 40 by omega) rfl ?_
        refine v_ri w1 ?_
        refine v_icmp_ge (tgt := 86) C dX9_isHeld_9 (by decide) (fun c_9 => absurd c_9 (nI_ge hlt (by omega))) (fun c_9 => ?_)
        refine v_aload_n C dX9_isHeld_12 rfl rfl ?_
        refine v_get C dX9_isHeld_13 8 hM.1 rfl in_X9 (by decide) g_fl_X9_32 (fun _ h9 => h9) rfl ?_
        refine v_bipush (v := 8) C dX9_isHeld_16 (by decide) ?_
        refine v_iload_n C dX9_isHeld_18 rfl rfl ?_
        refine v_imul C dX9_isHeld_19 ?_
        refine v_iload_n C dX9_isHeld_20 rfl rfl ?_
        refine v_iadd C dX9_isHeld_21 ?_
        refine m_ild C hM dX9_isHeld_22 8 ((8 * i) + k) (by decide) (show _ < 320 by omega) (by simp only [← nI_add, ← pk_mul]; rfl) ?_
        refine v_ri q8 ?_
        refine v_istore_n C dX9_isHeld_23 rfl (by decide) rfl ?_
        refine v_aload_n C dX9_isHeld_24 rfl rfl ?_
        refine v_iload_n C dX9_isHeld_25 rfl rfl ?_
        refine v_aload_n C dX9_isHeld_26 rfl rfl ?_
        refine v_get C dX9_isHeld_27 11 hM.1 rfl in_X9 (by decide) g_fl_X9_42 (fun _ h9 => h9) rfl ?_
        refine v_iload_n C dX9_isHeld_30 rfl rfl ?_
        refine m_lld C hM dX9_isHeld_31 11 k (by decide) (show _ < 8 by omega) rfl ?_
        refine v_ci (r_V C (m_hasNumber l D B K _ r f0 A L I e9.1 _ hM (by omega) (by rw [qsg]; exact qok)) dX9_isHeld_32 hM.1 rfl g_ml_X9_120 g_im_yX9_hasNumber g_se_X9_yX9_hasNumber_yX9_hasNumber g_in_X9 g_cd_yX9_hasNumber (rn_le (by decide)) (by decide) rfl rfl hdn_yX9_hasNumber (Nat.le_of_ble_eq_true rfl) ⟨Nat.le_of_ble_eq_true rfl, Nat.le_of_ble_eq_true rfl⟩) (fun r_32 f_32 hp_32 => ?_)
        obtain ⟨rfl, hf9⟩ := hp_32
        have hf9 := hf9.symm
        subst hf9
        refine v_ri (show bI (posS (sgM A L e9.1) (L 11 k)).isSome = 1 by rw [qsg, hp]; rfl) ?_
        refine v_if_ne (tgt := 80) C dX9_isHeld_35 (by decide) (fun _ => ?_) (fun c_35 => absurd c_35 (by decide))
        refine v_iinc (y := 1) C dX9_isHeld_80 rfl (by decide) (by decide) rfl ?_
        refine v_goto (tgt := 2) C dX9_isHeld_83 (by decide) ?_
        refine v_loc [(0, .ref (r 0)), (1, .int (nI i)), (2, .int (nI (k + 1)))] (lsub_c rfl (lsub_c rfl (lsub_c (by rw [nI_succ]; rfl) lsub_n))) ?_
        exact ih (k + 1) hlt (by omega) hmi
      | false =>
        rw [if_neg (by rw [hp]; decide)] at hmi
        refine v_iload_n C dX9_isHeld_2 rfl rfl ?_
        refine v_aload_n C dX9_isHeld_3 rfl rfl ?_
        refine v_get C dX9_isHeld_4 3 hM.1 rfl in_X9 (by decide) g_fl_X9_16 (fun _ h9 => h9) rfl ?_
        refine v_iload_n C dX9_isHeld_7 rfl rfl ?_
        refine m_ild C hM dX9_isHeld_8 3 i (by decide) (show _ < 40 by omega) rfl ?_
        refine v_ri w1 ?_
        refine v_icmp_ge (tgt := 86) C dX9_isHeld_9 (by decide) (fun c_9 => absurd c_9 (nI_ge hlt (by omega))) (fun c_9 => ?_)
        refine v_aload_n C dX9_isHeld_12 rfl rfl ?_
        refine v_get C dX9_isHeld_13 8 hM.1 rfl in_X9 (by decide) g_fl_X9_32 (fun _ h9 => h9) rfl ?_
        refine v_bipush (v := 8) C dX9_isHeld_16 (by decide) ?_
        refine v_iload_n C dX9_isHeld_18 rfl rfl ?_
        refine v_imul C dX9_isHeld_19 ?_
        refine v_iload_n C dX9_isHeld_20 rfl rfl ?_
        refine v_iadd C dX9_isHeld_21 ?_
        refine m_ild C hM dX9_isHeld_22 8 ((8 * i) + k) (by decide) (show _ < 320 by omega) (by simp only [← nI_add, ← pk_mul]; rfl) ?_
        refine v_ri q8 ?_
        refine v_istore_n C dX9_isHeld_23 rfl (by decide) rfl ?_
        refine v_aload_n C dX9_isHeld_24 rfl rfl ?_
        refine v_iload_n C dX9_isHeld_25 rfl rfl ?_
        refine v_aload_n C dX9_isHeld_26 rfl rfl ?_
        refine v_get C dX9_isHeld_27 11 hM.1 rfl in_X9 (by decide) g_fl_X9_42 (fun _ h9 => h9) rfl ?_
        refine v_iload_n C dX9_isHeld_30 rfl rfl ?_
        refine m_lld C hM dX9_isHeld_31 11 k (by decide) (show _ < 8 by omega) rfl ?_
        refine v_ci (r_V C (m_hasNumber l D B K _ r f0 A L I e9.1 _ hM (by omega) (by rw [qsg]; exact qok)) dX9_isHeld_32 hM.1 rfl g_ml_X9_120 g_im_yX9_hasNumber g_se_X9_yX9_hasNumber_yX9_hasNumber g_in_X9 g_cd_yX9_hasNumber (rn_le (by decide)) (by decide) rfl rfl hdn_yX9_hasNumber (Nat.le_of_ble_eq_true rfl) ⟨Nat.le_of_ble_eq_true rfl, Nat.le_of_ble_eq_true rfl⟩) (fun r_32 f_32 hp_32 => ?_)
        obtain ⟨rfl, hf9⟩ := hp_32
        have hf9 := hf9.symm
        subst hf9
        refine v_ri (show bI (posS (sgM A L e9.1) (L 11 k)).isSome = 0 by rw [qsg, hp]; rfl) ?_
        refine v_if_ne (tgt := 80) C dX9_isHeld_35 (by decide) (fun c_35 => absurd c_35 (by decide)) (fun _ => ?_)
        refine v_aload_n C dX9_isHeld_38 rfl rfl ?_
        refine v_iconst (v := 1) C dX9_isHeld_39 (by decide) ?_
        refine m_putz C hM dX9_isHeld_40 rfl rfl g_fl_X9_124 (fun f hM => ?_)
        refine v_aload_n C dX9_isHeld_43 rfl rfl ?_
        refine v_iload_n C dX9_isHeld_44 rfl rfl ?_
        refine m_put C hM dX9_isHeld_45 14 (by decide) g_fl_X9_128 (fun f hM => ?_)
        refine v_aload_n C dX9_isHeld_48 rfl rfl ?_
        refine v_iload_n C dX9_isHeld_49 rfl rfl ?_
        refine m_put C hM dX9_isHeld_50 15 (by decide) g_fl_X9_131 (fun f hM => ?_)
        refine v_aload_n C dX9_isHeld_53 rfl rfl ?_
        refine v_aload_n C dX9_isHeld_54 rfl rfl ?_
        refine v_get C dX9_isHeld_55 10 hM.1 rfl in_X9 (by decide) g_fl_X9_39 (fun _ h9 => h9) rfl ?_
        refine v_bipush (v := 8) C dX9_isHeld_58 (by decide) ?_
        refine v_iload_n C dX9_isHeld_60 rfl rfl ?_
        refine v_imul C dX9_isHeld_61 ?_
        refine v_iload_n C dX9_isHeld_62 rfl rfl ?_
        refine v_iadd C dX9_isHeld_63 ?_
        refine m_ild C hM dX9_isHeld_64 10 ((8 * i) + k) (by decide) (show _ < 320 by omega) (by simp only [← nI_add, ← pk_mul]; rfl) ?_
        refine v_ri q10 ?_
        refine m_put C hM dX9_isHeld_65 16 (by decide) g_fl_X9_134 (fun f hM => ?_)
        refine v_aload_n C dX9_isHeld_68 rfl rfl ?_
        refine v_dup C dX9_isHeld_69 rfl ?_
        refine v_get C dX9_isHeld_70 17 hM.1 rfl in_X9 (by decide) g_fl_X9_137 (fun _ h9 => h9) rfl ?_
        refine v_iconst (v := 1) C dX9_isHeld_73 (by decide) ?_
        refine v_iadd C dX9_isHeld_74 ?_
        refine m_put C hM dX9_isHeld_75 17 (by decide) g_fl_X9_137 (fun f hM => ?_)
        refine v_iconst (v := 0) C dX9_isHeld_78 (by decide) ?_
        exact v_zret C hr hlk dX9_isHeld_79 rfl (Nat.le_refl _) (Nat.le_refl _) (hp2 _ _ _ hmi hM)
    · have hke : l9.drop k = [] := List.drop_eq_nil_of_le (by omega)
      rw [hke] at hmi
      refine v_iload_n C dX9_isHeld_2 rfl rfl ?_
      refine v_aload_n C dX9_isHeld_3 rfl rfl ?_
      refine v_get C dX9_isHeld_4 3 hM.1 rfl in_X9 (by decide) g_fl_X9_16 (fun _ h9 => h9) rfl ?_
      refine v_iload_n C dX9_isHeld_7 rfl rfl ?_
      refine m_ild C hM dX9_isHeld_8 3 i (by decide) (show _ < 40 by omega) rfl ?_
      refine v_ri w1 ?_
      refine v_icmp_ge (tgt := 86) C dX9_isHeld_9 (by decide) (fun c_9 => ?_) (fun c_9 => absurd (nI_le (by omega) (by omega)) c_9)
      refine v_iconst (v := 1) C dX9_isHeld_86 (by decide) ?_
      exact v_zret C hr hlk dX9_isHeld_87 rfl (Nat.le_refl _) (Nat.le_refl _) (hp1 hmi)

set_option maxHeartbeats 4000000 in
set_option maxRecDepth 100000 in
theorem m_isHeld (l : Launch) (D : va_G) (B : Nat) (K : Nat → ClassId) (f : St) (r : Nat → Nat) (f0 : St) (A : Nat → Nat → Int32) (L : Nat → Nat → Int64) (I : Nat → Int32) (sg : Nat → Sg) (l9 : List Ent) (i n : Nat) (hM : MC K r f0 f A L I) (hrow : RowM A L sg l9 i n) (hi : i < 40) (hn : n ≤ 40) {post : Int32 → St → Prop} (hp1 : missE sg (L 11) l9 0 = none → post 1 f) (hp2 : ∀ k9 e9 f9, missE sg (L 11) l9 0 = some (k9, e9) → MC K r f0 f9 A L (missI I k9 e9) → post 0 f9) : Kc l D B K yX9_isHeld cX9_isHeld 4 ((some .boolean)) 2 0 0 [.ref (r 0), .int (nI i)] f (Qi_ D B post) := by
  refine v_met [(0, .ref (r 0)), (1, .int (nI i))] (by decide) (Nat.le_of_ble_eq_true rfl) rfl ?_
  intro p e s m args below meth c C hr hlk hin
  refine v_iconst (v := 0) C dX9_isHeld_0 (by decide) ?_
  refine v_istore_n C dX9_isHeld_1 rfl (by decide) rfl ?_
  refine v_loc [(0, .ref (r 0)), (1, .int (nI i)), (2, .int (nI 0))] (lsub_c rfl (lsub_c rfl (lsub_c rfl lsub_n))) ?_
  exact L_isHeld C hr hlk f r f0 A L I sg l9 i n hM hrow hi hn hp1 hp2 (l9.length + 1) 0 (Nat.zero_le _) (by omega) rfl

set_option maxHeartbeats 4000000 in
set_option maxRecDepth 100000 in
theorem m_isHeld_yes (l : Launch) (D : va_G) (B : Nat) (K : Nat → ClassId) (f : St) (r : Nat → Nat) (f0 : St) (A : Nat → Nat → Int32) (L : Nat → Nat → Int64) (I : Nat → Int32) (sg : Nat → Sg) (l9 : List Ent) (i n : Nat) (hM : MC K r f0 f A L I) (hrow : RowM A L sg l9 i n) (hi : i < 40) (hn : n ≤ 40) (hm : missE sg (L 11) l9 0 = none) : Kc l D B K yX9_isHeld cX9_isHeld 4 ((some .boolean)) 2 0 0 [.ref (r 0), .int (nI i)] f (Qi_ D B (fun x f9 => x = 1 ∧ f9 = f)) :=
  m_isHeld l D B K f r f0 A L I sg l9 i n hM hrow hi hn (fun _ => ⟨rfl, rfl⟩) (fun _ _ _ h _ => by rw [hm] at h; cases h)

set_option maxHeartbeats 4000000 in
set_option maxRecDepth 100000 in
theorem m_isHeld_no (l : Launch) (D : va_G) (B : Nat) (K : Nat → ClassId) (f : St) (r : Nat → Nat) (f0 : St) (A : Nat → Nat → Int32) (L : Nat → Nat → Int64) (I : Nat → Int32) (sg : Nat → Sg) (l9 : List Ent) (i n : Nat) (hM : MC K r f0 f A L I) (hrow : RowM A L sg l9 i n) (hi : i < 40) (hn : n ≤ 40) (k9 : Nat) (e9 : Ent) (hm : missE sg (L 11) l9 0 = some (k9, e9)) : Kc l D B K yX9_isHeld cX9_isHeld 4 ((some .boolean)) 2 0 0 [.ref (r 0), .int (nI i)] f (Qi_ D B (fun x f9 => x = 0 ∧ MC K r f0 f9 A L (missI I k9 e9))) :=
  m_isHeld l D B K f r f0 A L I sg l9 i n hM hrow hi hn (fun h => by rw [hm] at h; cases h) (fun _ _ _ h h2 => by rw [hm] at h; cases h; exact ⟨rfl, h2⟩)

theorem ps_sat {acc cnt dg : Nat} (hc : 1 ≤ cnt) : (if sat acc = (-1 : Int64) then (-1 : Int64) else if sat (acc * cnt) = (-1 : Int64) then (-1 : Int64) else if sat dg < (0 : Int64) then (-1 : Int64) else if sat (acc * cnt) ≤ (9223372036854775807 : Int64) - sat dg then sat (acc * cnt) + sat dg else (-1 : Int64)) = sat (acc * cnt + dg) := by
  have z : (0 : Int64).toInt = 0 := rfl
  have h1 : acc ≤ acc * cnt := Nat.le_mul_of_pos_right acc (by omega)
  generalize acc * cnt = u at h1
  by_cases c1 : sat acc = -1
  · rw [if_pos c1]
    rw [sat_m1] at c1
    rw [sat_ge (by omega)]
  · rw [if_neg c1]
    by_cases c2 : sat u = -1
    · rw [if_pos c2]
      rw [sat_m1] at c2
      rw [sat_ge (by omega)]
    · rw [if_neg c2]
      rw [sat_m1] at c2
      by_cases c3 : dg < 9223372036854775808
      · rw [if_neg (fun h => by rw [l_lt, sat_toInt, if_pos c3, z] at h; omega)]
        rw [sat_lt (show u < 9223372036854775808 by omega), sat_lt c3]
        have e : (9223372036854775807 : Int64) = lN 9223372036854775807 := rfl
        rw [e, lN_sub (by omega), lN_add]
        by_cases h3 : u ≤ 9223372036854775807 - dg
        · rw [if_pos ((pk_lLE (by omega) (by omega)).mpr h3), sat_lt (by omega)]
        · rw [if_neg (fun h => h3 ((pk_lLE (by omega) (by omega)).mp h)), sat_ge (by omega)]
      · rw [if_pos (by rw [l_lt, sat_toInt, if_neg c3, z]; decide), sat_ge (by omega)]
set_option maxHeartbeats 4000000 in
set_option maxRecDepth 100000 in
theorem L_place {p : Program} {l : Launch} {e : Env} {s : State} {m : MethodId} {args : Array Value} {below : List Frame} {meth : Method} {c : Code} {D : va_G} {B : Nat} {K : Nat → ClassId} (C : Cx p s m args c cX9_place 10 yX9_place.cls D B K) (hr : meth.sig.returnType = (some .long)) (hlk : meth.locks = false) (f : St) (r : Nat → Nat) (f0 : St) (A : Nat → Nat → Int32) (L : Nat → Nat → Int64) (I : Nat → Int32) (sg : Nat → Sg) (l9 : List Ent) (i n : Nat) (hM : MC K r f0 f A L I) (hrow : RowM A L sg l9 i n) (hi : i < 40) (hn : n ≤ 40) (hti : ∀ e ∈ l9, e.2.1 = true → cntS (sg e.1) < 9223372036854775808) : ∀ (n9 k acc : Nat), k ≤ l9.length → l9.length + 1 ≤ k + n9 → missE sg (L 11) (l9.drop k) k = none → idxE sg (L 11) l9 0 0 = idxE sg (L 11) (l9.drop k) k acc → V p l e (RM 2 0 0) s m args below meth c D B 10 (MQ below (Ql_ D B (fun x f9 => x = sat (idxE sg (L 11) l9 0 0) ∧ f9 = f)) args s 0 0 (AB B)) 0 0 f (lof [(0, .ref (r 0)), (1, .int (nI i)), (2, .long (sat acc)), (4, .int (nI k))]) 5 [] := by
  obtain ⟨w1, w2, w3, w4⟩ := hrow
  intro n9
  induction n9 with
  | zero => intro k acc h1 h2; omega
  | succ n9 ih =>
    intro k acc hk hin hmi hid
    by_cases hlt : k < l9.length
    · have he9 : l9[k]? = some l9[k] := List.getElem?_eq_getElem hlt
      obtain ⟨q8, q9, q10, qn, qsg, qok, qz⟩ := w4 k l9[k] he9
      generalize he : l9[k] = e9 at he9 q8 q9 q10 qn qsg qok qz
      have hdr : l9.drop k = e9 :: l9.drop (k + 1) := by rw [← he]; exact List.drop_eq_getElem_cons hlt
      have htn : e9.2.1 = true → cntS (sg e9.1) < 9223372036854775808 := fun h9 => hti e9 (List.mem_of_getElem? he9) h9
      rw [hdr] at hmi hid
      rw [missE_c] at hmi
      rw [idxE_c] at hid
      cases hp : posS (sg e9.1) (L 11 k) with
      | none => rw [hp] at hmi; cases hmi
      | some p9 =>
        rw [hp] at hmi hid
        have hmi : missE sg (L 11) (l9.drop (k + 1)) (k + 1) = none := hmi
        have hid : idxE sg (L 11) l9 0 0 = idxE sg (L 11) (l9.drop (k + 1)) (k + 1) (acc * cntS (sg e9.1) + digE sg e9 p9) := hid
        have hplt : p9 < cntS (sg e9.1) := pos_lt qok hp
        have hcpos : 1 ≤ cntS (sg e9.1) := by omega
        cases hb9 : e9.2.1 with
        | true =>
          rw [hb9] at q9
          have htc := htn hb9
          refine v_iload C dX9_place_5 rfl ?_
          refine v_aload_n C dX9_place_7 rfl rfl ?_
          refine v_get C dX9_place_8 3 hM.1 rfl in_X9 (by decide) g_fl_X9_16 (fun _ h9 => h9) rfl ?_
          refine v_iload_n C dX9_place_11 rfl rfl ?_
          refine m_ild C hM dX9_place_12 3 i (by decide) (show _ < 40 by omega) rfl ?_
          refine v_ri w1 ?_
          refine v_icmp_ge (tgt := 146) C dX9_place_13 (by decide) (fun c_13 => absurd c_13 (nI_ge hlt (by omega))) (fun c_13 => ?_)
          refine v_aload_n C dX9_place_16 rfl rfl ?_
          refine v_get C dX9_place_17 8 hM.1 rfl in_X9 (by decide) g_fl_X9_32 (fun _ h9 => h9) rfl ?_
          refine v_bipush (v := 8) C dX9_place_20 (by decide) ?_
          refine v_iload_n C dX9_place_22 rfl rfl ?_
          refine v_imul C dX9_place_23 ?_
          refine v_iload C dX9_place_24 rfl ?_
          refine v_iadd C dX9_place_26 ?_
          refine m_ild C hM dX9_place_27 8 ((8 * i) + k) (by decide) (show _ < 320 by omega) (by simp only [← nI_add, ← pk_mul]; rfl) ?_
          refine v_ri q8 ?_
          refine v_istore C dX9_place_28 (by decide) rfl ?_
          refine v_aload_n C dX9_place_30 rfl rfl ?_
          refine v_iload C dX9_place_31 rfl ?_
          refine v_aload_n C dX9_place_33 rfl rfl ?_
          refine v_get C dX9_place_34 11 hM.1 rfl in_X9 (by decide) g_fl_X9_42 (fun _ h9 => h9) rfl ?_
          refine v_iload C dX9_place_37 rfl ?_
          refine m_lld C hM dX9_place_39 11 k (by decide) (show _ < 8 by omega) rfl ?_
          refine v_cl (r_V C (m_placeOf l D B K _ r f0 A L I e9.1 _ p9 hM (by omega) (by rw [qsg]; exact qok) (by rw [qsg]; exact hp)) dX9_place_40 hM.1 rfl g_ml_X9_140 g_im_yX9_placeOf g_se_X9_yX9_placeOf_yX9_placeOf g_in_X9 g_cd_yX9_placeOf (rn_le (by decide)) (by decide) rfl rfl hdn_yX9_placeOf (Nat.le_of_ble_eq_true rfl) ⟨Nat.le_of_ble_eq_true rfl, Nat.le_of_ble_eq_true rfl⟩) (fun r_40 f_40 hp_40 => ?_)
          obtain ⟨rfl, hf9⟩ := hp_40
          have hf9 := hf9.symm
          subst hf9
          refine v_lstore C dX9_place_43 (by decide) rfl ?_
          refine v_aload_n C dX9_place_45 rfl rfl ?_
          refine v_get C dX9_place_46 9 hM.1 rfl in_X9 (by decide) g_fl_X9_35 (fun _ h9 => h9) rfl ?_
          refine v_bipush (v := 8) C dX9_place_49 (by decide) ?_
          refine v_iload_n C dX9_place_51 rfl rfl ?_
          refine v_imul C dX9_place_52 ?_
          refine v_iload C dX9_place_53 rfl ?_
          refine v_iadd C dX9_place_55 ?_
          refine m_zld C hM dX9_place_56 ((8 * i) + k) (show _ < 320 by omega) (by simp only [← nI_add, ← pk_mul]; rfl) ?_
          refine v_ri q9 ?_
          refine v_if_eq (tgt := 75) C dX9_place_57 (by decide) (fun c_57 => absurd c_57 (by decide)) (fun c_57 => ?_)
          refine v_aload_n C dX9_place_60 rfl rfl ?_
          refine v_get C dX9_place_61 4 hM.1 rfl in_X9 (by decide) g_fl_X9_19 (fun _ h9 => h9) rfl ?_
          refine v_iload C dX9_place_64 rfl ?_
          refine m_lld C hM dX9_place_66 4 (e9.1) (by decide) (show _ < 40 by omega) rfl ?_
          refine v_rl (qz.trans (sat_lt (htn hb9))) ?_
          refine v_lconst (v := 1) C dX9_place_67 (by decide) ?_
          refine v_lsub C dX9_place_68 ?_
          refine v_lload C dX9_place_69 rfl ?_
          refine v_lsub C dX9_place_71 ?_
          refine v_rl (show lN (cntS (sg e9.1)) - 1 - sat p9 = sat (digE sg e9 p9) by rw [sat_lt (show p9 < 9223372036854775808 by omega), show lN (cntS (sg e9.1)) - 1 = lN (cntS (sg e9.1) - 1) from lN_sub (b := 1) (by omega), lN_sub (by omega), sat_lt (Nat.lt_of_le_of_lt (Nat.le_of_lt (dig_lt hplt)) (htn hb9))]; unfold digE; rw [hb9]; rfl) ?_
          refine v_goto (tgt := 77) C dX9_place_72 (by decide) ?_
          refine v_lstore C dX9_place_77 (by decide) rfl ?_
          refine v_lload_n C dX9_place_79 rfl rfl ?_
          refine v_aload_n C dX9_place_80 rfl rfl ?_
          refine v_get C dX9_place_81 4 hM.1 rfl in_X9 (by decide) g_fl_X9_19 (fun _ h9 => h9) rfl ?_
          refine v_iload C dX9_place_84 rfl ?_
          refine m_lld C hM dX9_place_86 4 (e9.1) (by decide) (show _ < 40 by omega) rfl ?_
          refine v_rl qz ?_
          refine v_cl (r_S C (m_times l D B K _ _ _) dX9_place_87 g_ml_X9_97 g_st_yX9_times g_in_X9 g_cd_yX9_times (rn_le (by decide)) (by decide) rfl hdn_yX9_times (Nat.le_of_ble_eq_true rfl) ⟨Nat.le_of_ble_eq_true rfl, Nat.le_of_ble_eq_true rfl⟩) (fun r_87 f_87 hp_87 => ?_)
          obtain ⟨rfl, hf9⟩ := hp_87
          have hf9 := hf9.symm
          subst hf9
          refine v_rl ((tmM_eq _ _).trans (tm_sat _ _)) ?_
          refine v_lstore C dX9_place_90 (by decide) rfl ?_
          by_cases k1 : (sat acc = (-1 : Int64))
          · refine v_lload_n C dX9_place_92 rfl rfl ?_
            refine v_ldc2 C dX9_place_93 g_kl_X9_68 ?_
            refine v_lc_eq (tgt := 128) C dX9_place_96 dX9_place_97 (by decide) (fun c_96 => ?_) (fun c_96 => absurd k1 c_96)
            refine v_ldc2 C dX9_place_128 g_kl_X9_68 ?_
            refine v_goto (tgt := 139) C dX9_place_131 (by decide) ?_
            refine v_rl (show _ = sat (acc * cntS (sg e9.1) + digE sg e9 p9) by rw [← ps_sat hcpos]; rw [if_pos k1]) ?_
            refine v_lstore_n C dX9_place_139 rfl (by decide) rfl ?_
            refine v_iinc (y := 1) C dX9_place_140 rfl (by decide) (by decide) rfl ?_
            refine v_goto (tgt := 5) C dX9_place_143 (by decide) ?_
            refine v_loc [(0, .ref (r 0)), (1, .int (nI i)), (2, .long (sat (acc * cntS (sg e9.1) + digE sg e9 p9))), (4, .int (nI (k + 1)))] (lsub_c rfl (lsub_c rfl (lsub_c rfl (lsub_c (by rw [nI_succ]; rfl) lsub_n)))) ?_
            exact ih (k + 1) _ hlt (by omega) hmi hid
          · by_cases k2 : (sat (acc * cntS (sg e9.1)) = (-1 : Int64))
            · refine v_lload_n C dX9_place_92 rfl rfl ?_
              refine v_ldc2 C dX9_place_93 g_kl_X9_68 ?_
              refine v_lc_eq (tgt := 128) C dX9_place_96 dX9_place_97 (by decide) (fun c_96 => absurd c_96 k1) (fun c_96 => ?_)
              refine v_lload C dX9_place_100 rfl ?_
              refine v_ldc2 C dX9_place_102 g_kl_X9_68 ?_
              refine v_lc_eq (tgt := 128) C dX9_place_105 dX9_place_106 (by decide) (fun c_105 => ?_) (fun c_105 => absurd k2 c_105)
              refine v_ldc2 C dX9_place_128 g_kl_X9_68 ?_
              refine v_goto (tgt := 139) C dX9_place_131 (by decide) ?_
              refine v_rl (show _ = sat (acc * cntS (sg e9.1) + digE sg e9 p9) by rw [← ps_sat hcpos]; rw [if_neg k1, if_pos k2]) ?_
              refine v_lstore_n C dX9_place_139 rfl (by decide) rfl ?_
              refine v_iinc (y := 1) C dX9_place_140 rfl (by decide) (by decide) rfl ?_
              refine v_goto (tgt := 5) C dX9_place_143 (by decide) ?_
              refine v_loc [(0, .ref (r 0)), (1, .int (nI i)), (2, .long (sat (acc * cntS (sg e9.1) + digE sg e9 p9))), (4, .int (nI (k + 1)))] (lsub_c rfl (lsub_c rfl (lsub_c rfl (lsub_c (by rw [nI_succ]; rfl) lsub_n)))) ?_
              exact ih (k + 1) _ hlt (by omega) hmi hid
            · by_cases k3 : (sat (digE sg e9 p9) < (0 : Int64))
              · refine v_lload_n C dX9_place_92 rfl rfl ?_
                refine v_ldc2 C dX9_place_93 g_kl_X9_68 ?_
                refine v_lc_eq (tgt := 128) C dX9_place_96 dX9_place_97 (by decide) (fun c_96 => absurd c_96 k1) (fun c_96 => ?_)
                refine v_lload C dX9_place_100 rfl ?_
                refine v_ldc2 C dX9_place_102 g_kl_X9_68 ?_
                refine v_lc_eq (tgt := 128) C dX9_place_105 dX9_place_106 (by decide) (fun c_105 => absurd c_105 k2) (fun c_105 => ?_)
                refine v_lload C dX9_place_109 rfl ?_
                refine v_lconst (v := 0) C dX9_place_111 (by decide) ?_
                refine v_lc_lt (tgt := 128) C dX9_place_112 dX9_place_113 (by decide) (fun c_112 => ?_) (fun c_112 => absurd k3 c_112)
                refine v_ldc2 C dX9_place_128 g_kl_X9_68 ?_
                refine v_goto (tgt := 139) C dX9_place_131 (by decide) ?_
                refine v_rl (show _ = sat (acc * cntS (sg e9.1) + digE sg e9 p9) by rw [← ps_sat hcpos]; rw [if_neg k1, if_neg k2, if_pos k3]) ?_
                refine v_lstore_n C dX9_place_139 rfl (by decide) rfl ?_
                refine v_iinc (y := 1) C dX9_place_140 rfl (by decide) (by decide) rfl ?_
                refine v_goto (tgt := 5) C dX9_place_143 (by decide) ?_
                refine v_loc [(0, .ref (r 0)), (1, .int (nI i)), (2, .long (sat (acc * cntS (sg e9.1) + digE sg e9 p9))), (4, .int (nI (k + 1)))] (lsub_c rfl (lsub_c rfl (lsub_c rfl (lsub_c (by rw [nI_succ]; rfl) lsub_n)))) ?_
                exact ih (k + 1) _ hlt (by omega) hmi hid
              · by_cases k4 : (sat (acc * cntS (sg e9.1)) ≤ (9223372036854775807 : Int64) - sat (digE sg e9 p9))
                · refine v_lload_n C dX9_place_92 rfl rfl ?_
                  refine v_ldc2 C dX9_place_93 g_kl_X9_68 ?_
                  refine v_lc_eq (tgt := 128) C dX9_place_96 dX9_place_97 (by decide) (fun c_96 => absurd c_96 k1) (fun c_96 => ?_)
                  refine v_lload C dX9_place_100 rfl ?_
                  refine v_ldc2 C dX9_place_102 g_kl_X9_68 ?_
                  refine v_lc_eq (tgt := 128) C dX9_place_105 dX9_place_106 (by decide) (fun c_105 => absurd c_105 k2) (fun c_105 => ?_)
                  refine v_lload C dX9_place_109 rfl ?_
                  refine v_lconst (v := 0) C dX9_place_111 (by decide) ?_
                  refine v_lc_lt (tgt := 128) C dX9_place_112 dX9_place_113 (by decide) (fun c_112 => absurd c_112 k3) (fun c_112 => ?_)
                  refine v_lload C dX9_place_116 rfl ?_
                  refine v_ldc2 C dX9_place_118 g_kl_X9_76 ?_
                  refine v_lload C dX9_place_121 rfl ?_
                  refine v_lsub C dX9_place_123 ?_
                  refine v_lc_le (tgt := 134) C dX9_place_124 dX9_place_125 (by decide) (fun c_124 => ?_) (fun c_124 => absurd k4 c_124)
                  refine v_lload C dX9_place_134 rfl ?_
                  refine v_lload C dX9_place_136 rfl ?_
                  refine v_ladd C dX9_place_138 ?_
                  refine v_rl (show _ = sat (acc * cntS (sg e9.1) + digE sg e9 p9) by rw [← ps_sat hcpos]; rw [if_neg k1, if_neg k2, if_neg k3, if_pos k4]) ?_
                  refine v_lstore_n C dX9_place_139 rfl (by decide) rfl ?_
                  refine v_iinc (y := 1) C dX9_place_140 rfl (by decide) (by decide) rfl ?_
                  refine v_goto (tgt := 5) C dX9_place_143 (by decide) ?_
                  refine v_loc [(0, .ref (r 0)), (1, .int (nI i)), (2, .long (sat (acc * cntS (sg e9.1) + digE sg e9 p9))), (4, .int (nI (k + 1)))] (lsub_c rfl (lsub_c rfl (lsub_c rfl (lsub_c (by rw [nI_succ]; rfl) lsub_n)))) ?_
                  exact ih (k + 1) _ hlt (by omega) hmi hid
                · refine v_lload_n C dX9_place_92 rfl rfl ?_
                  refine v_ldc2 C dX9_place_93 g_kl_X9_68 ?_
                  refine v_lc_eq (tgt := 128) C dX9_place_96 dX9_place_97 (by decide) (fun c_96 => absurd c_96 k1) (fun c_96 => ?_)
                  refine v_lload C dX9_place_100 rfl ?_
                  refine v_ldc2 C dX9_place_102 g_kl_X9_68 ?_
                  refine v_lc_eq (tgt := 128) C dX9_place_105 dX9_place_106 (by decide) (fun c_105 => absurd c_105 k2) (fun c_105 => ?_)
                  refine v_lload C dX9_place_109 rfl ?_
                  refine v_lconst (v := 0) C dX9_place_111 (by decide) ?_
                  refine v_lc_lt (tgt := 128) C dX9_place_112 dX9_place_113 (by decide) (fun c_112 => absurd c_112 k3) (fun c_112 => ?_)
                  refine v_lload C dX9_place_116 rfl ?_
                  refine v_ldc2 C dX9_place_118 g_kl_X9_76 ?_
                  refine v_lload C dX9_place_121 rfl ?_
                  refine v_lsub C dX9_place_123 ?_
                  refine v_lc_le (tgt := 134) C dX9_place_124 dX9_place_125 (by decide) (fun c_124 => absurd c_124 k4) (fun c_124 => ?_)
                  refine v_ldc2 C dX9_place_128 g_kl_X9_68 ?_
                  refine v_goto (tgt := 139) C dX9_place_131 (by decide) ?_
                  refine v_rl (show _ = sat (acc * cntS (sg e9.1) + digE sg e9 p9) by rw [← ps_sat hcpos]; rw [if_neg k1, if_neg k2, if_neg k3, if_neg k4]) ?_
                  refine v_lstore_n C dX9_place_139 rfl (by decide) rfl ?_
                  refine v_iinc (y := 1) C dX9_place_140 rfl (by decide) (by decide) rfl ?_
                  refine v_goto (tgt := 5) C dX9_place_143 (by decide) ?_
                  refine v_loc [(0, .ref (r 0)), (1, .int (nI i)), (2, .long (sat (acc * cntS (sg e9.1) + digE sg e9 p9))), (4, .int (nI (k + 1)))] (lsub_c rfl (lsub_c rfl (lsub_c rfl (lsub_c (by rw [nI_succ]; rfl) lsub_n)))) ?_
                  exact ih (k + 1) _ hlt (by omega) hmi hid
        | false =>
          rw [hb9] at q9
          refine v_iload C dX9_place_5 rfl ?_
          refine v_aload_n C dX9_place_7 rfl rfl ?_
          refine v_get C dX9_place_8 3 hM.1 rfl in_X9 (by decide) g_fl_X9_16 (fun _ h9 => h9) rfl ?_
          refine v_iload_n C dX9_place_11 rfl rfl ?_
          refine m_ild C hM dX9_place_12 3 i (by decide) (show _ < 40 by omega) rfl ?_
          refine v_ri w1 ?_
          refine v_icmp_ge (tgt := 146) C dX9_place_13 (by decide) (fun c_13 => absurd c_13 (nI_ge hlt (by omega))) (fun c_13 => ?_)
          refine v_aload_n C dX9_place_16 rfl rfl ?_
          refine v_get C dX9_place_17 8 hM.1 rfl in_X9 (by decide) g_fl_X9_32 (fun _ h9 => h9) rfl ?_
          refine v_bipush (v := 8) C dX9_place_20 (by decide) ?_
          refine v_iload_n C dX9_place_22 rfl rfl ?_
          refine v_imul C dX9_place_23 ?_
          refine v_iload C dX9_place_24 rfl ?_
          refine v_iadd C dX9_place_26 ?_
          refine m_ild C hM dX9_place_27 8 ((8 * i) + k) (by decide) (show _ < 320 by omega) (by simp only [← nI_add, ← pk_mul]; rfl) ?_
          refine v_ri q8 ?_
          refine v_istore C dX9_place_28 (by decide) rfl ?_
          refine v_aload_n C dX9_place_30 rfl rfl ?_
          refine v_iload C dX9_place_31 rfl ?_
          refine v_aload_n C dX9_place_33 rfl rfl ?_
          refine v_get C dX9_place_34 11 hM.1 rfl in_X9 (by decide) g_fl_X9_42 (fun _ h9 => h9) rfl ?_
          refine v_iload C dX9_place_37 rfl ?_
          refine m_lld C hM dX9_place_39 11 k (by decide) (show _ < 8 by omega) rfl ?_
          refine v_cl (r_V C (m_placeOf l D B K _ r f0 A L I e9.1 _ p9 hM (by omega) (by rw [qsg]; exact qok) (by rw [qsg]; exact hp)) dX9_place_40 hM.1 rfl g_ml_X9_140 g_im_yX9_placeOf g_se_X9_yX9_placeOf_yX9_placeOf g_in_X9 g_cd_yX9_placeOf (rn_le (by decide)) (by decide) rfl rfl hdn_yX9_placeOf (Nat.le_of_ble_eq_true rfl) ⟨Nat.le_of_ble_eq_true rfl, Nat.le_of_ble_eq_true rfl⟩) (fun r_40 f_40 hp_40 => ?_)
          obtain ⟨rfl, hf9⟩ := hp_40
          have hf9 := hf9.symm
          subst hf9
          refine v_lstore C dX9_place_43 (by decide) rfl ?_
          refine v_aload_n C dX9_place_45 rfl rfl ?_
          refine v_get C dX9_place_46 9 hM.1 rfl in_X9 (by decide) g_fl_X9_35 (fun _ h9 => h9) rfl ?_
          refine v_bipush (v := 8) C dX9_place_49 (by decide) ?_
          refine v_iload_n C dX9_place_51 rfl rfl ?_
          refine v_imul C dX9_place_52 ?_
          refine v_iload C dX9_place_53 rfl ?_
          refine v_iadd C dX9_place_55 ?_
          refine m_zld C hM dX9_place_56 ((8 * i) + k) (show _ < 320 by omega) (by simp only [← nI_add, ← pk_mul]; rfl) ?_
          refine v_ri q9 ?_
          refine v_if_eq (tgt := 75) C dX9_place_57 (by decide) (fun c_57 => ?_) (fun c_57 => absurd rfl c_57)
          refine v_lload C dX9_place_75 rfl ?_
          refine v_rl (show sat p9 = sat (digE sg e9 p9) by unfold digE; rw [hb9]; rfl) ?_
          refine v_lstore C dX9_place_77 (by decide) rfl ?_
          refine v_lload_n C dX9_place_79 rfl rfl ?_
          refine v_aload_n C dX9_place_80 rfl rfl ?_
          refine v_get C dX9_place_81 4 hM.1 rfl in_X9 (by decide) g_fl_X9_19 (fun _ h9 => h9) rfl ?_
          refine v_iload C dX9_place_84 rfl ?_
          refine m_lld C hM dX9_place_86 4 (e9.1) (by decide) (show _ < 40 by omega) rfl ?_
          refine v_rl qz ?_
          refine v_cl (r_S C (m_times l D B K _ _ _) dX9_place_87 g_ml_X9_97 g_st_yX9_times g_in_X9 g_cd_yX9_times (rn_le (by decide)) (by decide) rfl hdn_yX9_times (Nat.le_of_ble_eq_true rfl) ⟨Nat.le_of_ble_eq_true rfl, Nat.le_of_ble_eq_true rfl⟩) (fun r_87 f_87 hp_87 => ?_)
          obtain ⟨rfl, hf9⟩ := hp_87
          have hf9 := hf9.symm
          subst hf9
          refine v_rl ((tmM_eq _ _).trans (tm_sat _ _)) ?_
          refine v_lstore C dX9_place_90 (by decide) rfl ?_
          by_cases k1 : (sat acc = (-1 : Int64))
          · refine v_lload_n C dX9_place_92 rfl rfl ?_
            refine v_ldc2 C dX9_place_93 g_kl_X9_68 ?_
            refine v_lc_eq (tgt := 128) C dX9_place_96 dX9_place_97 (by decide) (fun c_96 => ?_) (fun c_96 => absurd k1 c_96)
            refine v_ldc2 C dX9_place_128 g_kl_X9_68 ?_
            refine v_goto (tgt := 139) C dX9_place_131 (by decide) ?_
            refine v_rl (show _ = sat (acc * cntS (sg e9.1) + digE sg e9 p9) by rw [← ps_sat hcpos]; rw [if_pos k1]) ?_
            refine v_lstore_n C dX9_place_139 rfl (by decide) rfl ?_
            refine v_iinc (y := 1) C dX9_place_140 rfl (by decide) (by decide) rfl ?_
            refine v_goto (tgt := 5) C dX9_place_143 (by decide) ?_
            refine v_loc [(0, .ref (r 0)), (1, .int (nI i)), (2, .long (sat (acc * cntS (sg e9.1) + digE sg e9 p9))), (4, .int (nI (k + 1)))] (lsub_c rfl (lsub_c rfl (lsub_c rfl (lsub_c (by rw [nI_succ]; rfl) lsub_n)))) ?_
            exact ih (k + 1) _ hlt (by omega) hmi hid
          · by_cases k2 : (sat (acc * cntS (sg e9.1)) = (-1 : Int64))
            · refine v_lload_n C dX9_place_92 rfl rfl ?_
              refine v_ldc2 C dX9_place_93 g_kl_X9_68 ?_
              refine v_lc_eq (tgt := 128) C dX9_place_96 dX9_place_97 (by decide) (fun c_96 => absurd c_96 k1) (fun c_96 => ?_)
              refine v_lload C dX9_place_100 rfl ?_
              refine v_ldc2 C dX9_place_102 g_kl_X9_68 ?_
              refine v_lc_eq (tgt := 128) C dX9_place_105 dX9_place_106 (by decide) (fun c_105 => ?_) (fun c_105 => absurd k2 c_105)
              refine v_ldc2 C dX9_place_128 g_kl_X9_68 ?_
              refine v_goto (tgt := 139) C dX9_place_131 (by decide) ?_
              refine v_rl (show _ = sat (acc * cntS (sg e9.1) + digE sg e9 p9) by rw [← ps_sat hcpos]; rw [if_neg k1, if_pos k2]) ?_
              refine v_lstore_n C dX9_place_139 rfl (by decide) rfl ?_
              refine v_iinc (y := 1) C dX9_place_140 rfl (by decide) (by decide) rfl ?_
              refine v_goto (tgt := 5) C dX9_place_143 (by decide) ?_
              refine v_loc [(0, .ref (r 0)), (1, .int (nI i)), (2, .long (sat (acc * cntS (sg e9.1) + digE sg e9 p9))), (4, .int (nI (k + 1)))] (lsub_c rfl (lsub_c rfl (lsub_c rfl (lsub_c (by rw [nI_succ]; rfl) lsub_n)))) ?_
              exact ih (k + 1) _ hlt (by omega) hmi hid
            · by_cases k3 : (sat (digE sg e9 p9) < (0 : Int64))
              · refine v_lload_n C dX9_place_92 rfl rfl ?_
                refine v_ldc2 C dX9_place_93 g_kl_X9_68 ?_
                refine v_lc_eq (tgt := 128) C dX9_place_96 dX9_place_97 (by decide) (fun c_96 => absurd c_96 k1) (fun c_96 => ?_)
                refine v_lload C dX9_place_100 rfl ?_
                refine v_ldc2 C dX9_place_102 g_kl_X9_68 ?_
                refine v_lc_eq (tgt := 128) C dX9_place_105 dX9_place_106 (by decide) (fun c_105 => absurd c_105 k2) (fun c_105 => ?_)
                refine v_lload C dX9_place_109 rfl ?_
                refine v_lconst (v := 0) C dX9_place_111 (by decide) ?_
                refine v_lc_lt (tgt := 128) C dX9_place_112 dX9_place_113 (by decide) (fun c_112 => ?_) (fun c_112 => absurd k3 c_112)
                refine v_ldc2 C dX9_place_128 g_kl_X9_68 ?_
                refine v_goto (tgt := 139) C dX9_place_131 (by decide) ?_
                refine v_rl (show _ = sat (acc * cntS (sg e9.1) + digE sg e9 p9) by rw [← ps_sat hcpos]; rw [if_neg k1, if_neg k2, if_pos k3]) ?_
                refine v_lstore_n C dX9_place_139 rfl (by decide) rfl ?_
                refine v_iinc (y := 1) C dX9_place_140 rfl (by decide) (by decide) rfl ?_
                refine v_goto (tgt := 5) C dX9_place_143 (by decide) ?_
                refine v_loc [(0, .ref (r 0)), (1, .int (nI i)), (2, .long (sat (acc * cntS (sg e9.1) + digE sg e9 p9))), (4, .int (nI (k + 1)))] (lsub_c rfl (lsub_c rfl (lsub_c rfl (lsub_c (by rw [nI_succ]; rfl) lsub_n)))) ?_
                exact ih (k + 1) _ hlt (by omega) hmi hid
              · by_cases k4 : (sat (acc * cntS (sg e9.1)) ≤ (9223372036854775807 : Int64) - sat (digE sg e9 p9))
                · refine v_lload_n C dX9_place_92 rfl rfl ?_
                  refine v_ldc2 C dX9_place_93 g_kl_X9_68 ?_
                  refine v_lc_eq (tgt := 128) C dX9_place_96 dX9_place_97 (by decide) (fun c_96 => absurd c_96 k1) (fun c_96 => ?_)
                  refine v_lload C dX9_place_100 rfl ?_
                  refine v_ldc2 C dX9_place_102 g_kl_X9_68 ?_
                  refine v_lc_eq (tgt := 128) C dX9_place_105 dX9_place_106 (by decide) (fun c_105 => absurd c_105 k2) (fun c_105 => ?_)
                  refine v_lload C dX9_place_109 rfl ?_
                  refine v_lconst (v := 0) C dX9_place_111 (by decide) ?_
                  refine v_lc_lt (tgt := 128) C dX9_place_112 dX9_place_113 (by decide) (fun c_112 => absurd c_112 k3) (fun c_112 => ?_)
                  refine v_lload C dX9_place_116 rfl ?_
                  refine v_ldc2 C dX9_place_118 g_kl_X9_76 ?_
                  refine v_lload C dX9_place_121 rfl ?_
                  refine v_lsub C dX9_place_123 ?_
                  refine v_lc_le (tgt := 134) C dX9_place_124 dX9_place_125 (by decide) (fun c_124 => ?_) (fun c_124 => absurd k4 c_124)
                  refine v_lload C dX9_place_134 rfl ?_
                  refine v_lload C dX9_place_136 rfl ?_
                  refine v_ladd C dX9_place_138 ?_
                  refine v_rl (show _ = sat (acc * cntS (sg e9.1) + digE sg e9 p9) by rw [← ps_sat hcpos]; rw [if_neg k1, if_neg k2, if_neg k3, if_pos k4]) ?_
                  refine v_lstore_n C dX9_place_139 rfl (by decide) rfl ?_
                  refine v_iinc (y := 1) C dX9_place_140 rfl (by decide) (by decide) rfl ?_
                  refine v_goto (tgt := 5) C dX9_place_143 (by decide) ?_
                  refine v_loc [(0, .ref (r 0)), (1, .int (nI i)), (2, .long (sat (acc * cntS (sg e9.1) + digE sg e9 p9))), (4, .int (nI (k + 1)))] (lsub_c rfl (lsub_c rfl (lsub_c rfl (lsub_c (by rw [nI_succ]; rfl) lsub_n)))) ?_
                  exact ih (k + 1) _ hlt (by omega) hmi hid
                · refine v_lload_n C dX9_place_92 rfl rfl ?_
                  refine v_ldc2 C dX9_place_93 g_kl_X9_68 ?_
                  refine v_lc_eq (tgt := 128) C dX9_place_96 dX9_place_97 (by decide) (fun c_96 => absurd c_96 k1) (fun c_96 => ?_)
                  refine v_lload C dX9_place_100 rfl ?_
                  refine v_ldc2 C dX9_place_102 g_kl_X9_68 ?_
                  refine v_lc_eq (tgt := 128) C dX9_place_105 dX9_place_106 (by decide) (fun c_105 => absurd c_105 k2) (fun c_105 => ?_)
                  refine v_lload C dX9_place_109 rfl ?_
                  refine v_lconst (v := 0) C dX9_place_111 (by decide) ?_
                  refine v_lc_lt (tgt := 128) C dX9_place_112 dX9_place_113 (by decide) (fun c_112 => absurd c_112 k3) (fun c_112 => ?_)
                  refine v_lload C dX9_place_116 rfl ?_
                  refine v_ldc2 C dX9_place_118 g_kl_X9_76 ?_
                  refine v_lload C dX9_place_121 rfl ?_
                  refine v_lsub C dX9_place_123 ?_
                  refine v_lc_le (tgt := 134) C dX9_place_124 dX9_place_125 (by decide) (fun c_124 => absurd c_124 k4) (fun c_124 => ?_)
                  refine v_ldc2 C dX9_place_128 g_kl_X9_68 ?_
                  refine v_goto (tgt := 139) C dX9_place_131 (by decide) ?_
                  refine v_rl (show _ = sat (acc * cntS (sg e9.1) + digE sg e9 p9) by rw [← ps_sat hcpos]; rw [if_neg k1, if_neg k2, if_neg k3, if_neg k4]) ?_
                  refine v_lstore_n C dX9_place_139 rfl (by decide) rfl ?_
                  refine v_iinc (y := 1) C dX9_place_140 rfl (by decide) (by decide) rfl ?_
                  refine v_goto (tgt := 5) C dX9_place_143 (by decide) ?_
                  refine v_loc [(0, .ref (r 0)), (1, .int (nI i)), (2, .long (sat (acc * cntS (sg e9.1) + digE sg e9 p9))), (4, .int (nI (k + 1)))] (lsub_c rfl (lsub_c rfl (lsub_c rfl (lsub_c (by rw [nI_succ]; rfl) lsub_n)))) ?_
                  exact ih (k + 1) _ hlt (by omega) hmi hid
    · have hke : l9.drop k = [] := List.drop_eq_nil_of_le (by omega)
      rw [hke] at hid
      refine v_iload C dX9_place_5 rfl ?_
      refine v_aload_n C dX9_place_7 rfl rfl ?_
      refine v_get C dX9_place_8 3 hM.1 rfl in_X9 (by decide) g_fl_X9_16 (fun _ h9 => h9) rfl ?_
      refine v_iload_n C dX9_place_11 rfl rfl ?_
      refine m_ild C hM dX9_place_12 3 i (by decide) (show _ < 40 by omega) rfl ?_
      refine v_ri w1 ?_
      refine v_icmp_ge (tgt := 146) C dX9_place_13 (by decide) (fun c_13 => ?_) (fun c_13 => absurd (nI_le (by omega) (by omega)) c_13)
      refine v_lload_n C dX9_place_146 rfl rfl ?_
      exact v_lret C hr hlk dX9_place_147 (Nat.le_refl _) (Nat.le_refl _) ⟨by rw [hid]; rfl, rfl⟩

set_option maxHeartbeats 4000000 in
set_option maxRecDepth 100000 in
theorem m_place (l : Launch) (D : va_G) (B : Nat) (K : Nat → ClassId) (f : St) (r : Nat → Nat) (f0 : St) (A : Nat → Nat → Int32) (L : Nat → Nat → Int64) (I : Nat → Int32) (sg : Nat → Sg) (l9 : List Ent) (i n : Nat) (hM : MC K r f0 f A L I) (hrow : RowM A L sg l9 i n) (hi : i < 40) (hn : n ≤ 40) (hti : ∀ e ∈ l9, e.2.1 = true → cntS (sg e.1) < 9223372036854775808) (hm : missE sg (L 11) l9 0 = none) : Kc l D B K yX9_place cX9_place 10 ((some .long)) 2 0 0 [.ref (r 0), .int (nI i)] f (Ql_ D B (fun x f9 => x = sat (idxE sg (L 11) l9 0 0) ∧ f9 = f)) := by
  refine v_met [(0, .ref (r 0)), (1, .int (nI i))] (by decide) (Nat.le_of_ble_eq_true rfl) rfl ?_
  intro p e s m args below meth c C hr hlk hin
  refine v_lconst (v := 0) C dX9_place_0 (by decide) ?_
  refine v_lstore_n C dX9_place_1 rfl (by decide) rfl ?_
  refine v_iconst (v := 0) C dX9_place_2 (by decide) ?_
  refine v_istore C dX9_place_3 (by decide) rfl ?_
  refine v_loc [(0, .ref (r 0)), (1, .int (nI i)), (2, .long (sat 0)), (4, .int (nI 0))] (lsub_c rfl (lsub_c rfl (lsub_c rfl (lsub_c rfl lsub_n)))) ?_
  exact L_place C hr hlk f r f0 A L I sg l9 i n hM hrow hi hn hti (l9.length + 1) 0 0 (Nat.zero_le _) (by omega) hm rfl

