/-! the reference: new ranges -/
def begA (A : Nat → Nat → Int32) (n : Nat) (kd pa wi : Int32) : Nat → Nat → Int32 := up1 (up1 (up1 A 1 (upd (A 1) n kd)) 2 (upd (A 2) n pa)) 3 (upd (A 3) n wi)
def RowP (A : Nat → Nat → Int32) (L : Nat → Nat → Int64) (sg : Nat → Sg) (l : List Ent) (b n : Nat) : Prop := ∀ k e, l[k]? = some e → A 8 (b + k) = nI e.1 ∧ A 9 (b + k) = bI e.2.1 ∧ A 10 (b + k) = nI e.2.2 ∧ e.1 < n ∧ sgM A L e.1 = sg e.1 ∧ okS (sg e.1) ∧ L 4 e.1 = sat (cntS (sg e.1))
theorem RowM.p {A : Nat → Nat → Int32} {L : Nat → Nat → Int64} {sg : Nat → Sg} {l : List Ent} {i n : Nat} (h : RowM A L sg l i n) : RowP A L sg l (8 * i) n := h.2.2.2
theorem RowP.m {A : Nat → Nat → Int32} {L : Nat → Nat → Int64} {sg : Nat → Sg} {l : List Ent} {i n : Nat} (h : RowP A L sg l (8 * i) n) (h1 : A 3 i = nI l.length) (h2 : 1 ≤ l.length) (h3 : l.length ≤ 8) : RowM A L sg l i n := ⟨h1, h2, h3, h⟩
theorem sg_eq {A A2 : Nat → Nat → Int32} {L L2 : Nat → Nat → Int64} {o : Nat} (h1 : A2 1 o = A 1 o) (h7 : A2 7 o = A 7 o) (h5 : L2 5 o = L 5 o) (h6 : L2 6 o = L 6 o) : sgM A2 L2 o = sgM A L o := by
  unfold sgM
  rw [h1, h7, h5, h6]
theorem RowP.beg {A : Nat → Nat → Int32} {L : Nat → Nat → Int64} {sg : Nat → Sg} {l : List Ent} {b n : Nat} {kd pa wi : Int32} (h : RowP A L sg l b n) : RowP (begA A n kd pa wi) L sg l b n := fun k e he => by
  obtain ⟨q8, q9, q10, qn, qs, qo, qz⟩ := h k e he
  refine ⟨q8, q9, q10, qn, ?_, qo, qz⟩
  rw [← qs]
  exact sg_eq (pk_un (by omega)) rfl rfl rfl
theorem RowP.keep {A A2 : Nat → Nat → Int32} {L : Nat → Nat → Int64} {sg : Nat → Sg} {l : List Ent} {b n at9 o w : Nat} {bb : Int32} (h : RowP A L sg l b n) (hT : TK A A2 n at9 o w bb) (hb : b + l.length ≤ 8 * n + at9 ∨ 8 * n + at9 + w ≤ b) : RowP A2 L sg l b n := fun k e he => by
  obtain ⟨q8, q9, q10, qn, qs, qo, qz⟩ := h k e he
  have hk : k < l.length := (List.getElem?_eq_some_iff.mp he).1
  obtain ⟨t8, t9, t10⟩ := hT.2.1 (b + k) (by omega)
  refine ⟨by rw [t8]; exact q8, by rw [t9]; exact q9, by rw [t10]; exact q10, qn, ?_, qo, qz⟩
  rw [← qs]
  exact sg_eq (by rw [hT.1 1 (by decide) (by decide) (by decide)]) (by rw [hT.1 7 (by decide) (by decide) (by decide)]) rfl rfl
theorem bx2_0 (b : Bool) : bx2 (bI b) 0 = bI b := by cases b <;> rfl
theorem bx2_1 (b : Bool) : bx2 (bI b) 1 = bI (!b) := by cases b <;> rfl
theorem RowP.take0 {A A2 : Nat → Nat → Int32} {L : Nat → Nat → Int64} {sg : Nat → Sg} {l : List Ent} {n at9 o : Nat} (h : RowP A L sg l (8 * o) n) (hT : TK A A2 n at9 o l.length 0) : RowP A2 L sg (l.map deepE) (8 * n + at9) n := fun k e he => by
  rw [List.getElem?_map] at he
  cases hl : l[k]? with
  | none => rw [hl] at he; cases he
  | some e0 =>
    rw [hl] at he
    cases he
    obtain ⟨q8, q9, q10, qn, qs, qo, qz⟩ := h k e0 hl
    have hk : k < l.length := (List.getElem?_eq_some_iff.mp hl).1
    obtain ⟨t8, t9, t10⟩ := hT.2.2 k hk
    refine ⟨by rw [t8]; exact q8, by rw [t9, q9]; exact bx2_0 _, by rw [t10, q10]; exact nI_1 _, qn, ?_, qo, qz⟩
    show _ = sg e0.1
    rw [← qs]
    exact sg_eq (by rw [hT.1 1 (by decide) (by decide) (by decide)]) (by rw [hT.1 7 (by decide) (by decide) (by decide)]) rfl rfl
theorem RowP.take1 {A A2 : Nat → Nat → Int32} {L : Nat → Nat → Int64} {sg : Nat → Sg} {l : List Ent} {n at9 o : Nat} (h : RowP A L sg l (8 * o) n) (hT : TK A A2 n at9 o l.length 1) : RowP A2 L sg (l.map flipE) (8 * n + at9) n := fun k e he => by
  rw [List.getElem?_map] at he
  cases hl : l[k]? with
  | none => rw [hl] at he; cases he
  | some e0 =>
    rw [hl] at he
    cases he
    obtain ⟨q8, q9, q10, qn, qs, qo, qz⟩ := h k e0 hl
    have hk : k < l.length := (List.getElem?_eq_some_iff.mp hl).1
    obtain ⟨t8, t9, t10⟩ := hT.2.2 k hk
    refine ⟨by rw [t8]; exact q8, by rw [t9, q9]; exact bx2_1 _, by rw [t10, q10]; exact nI_1 _, qn, ?_, qo, qz⟩
    show _ = sg e0.1
    rw [← qs]
    exact sg_eq (by rw [hT.1 1 (by decide) (by decide) (by decide)]) (by rw [hT.1 7 (by decide) (by decide) (by decide)]) rfl rfl
theorem RowP.app {A : Nat → Nat → Int32} {L : Nat → Nat → Int64} {sg : Nat → Sg} {l1 l2 : List Ent} {b n : Nat} (h1 : RowP A L sg l1 b n) (h2 : RowP A L sg l2 (b + l1.length) n) : RowP A L sg (l1 ++ l2) b n := fun k e he => by
  by_cases hk : k < l1.length
  · rw [List.getElem?_append_left hk] at he
    exact h1 k e he
  · rw [List.getElem?_append_right (by omega)] at he
    have h := h2 (k - l1.length) e he
    rw [show b + l1.length + (k - l1.length) = b + k by omega] at h
    exact h
theorem TK.w {A A2 : Nat → Nat → Int32} {n at9 o w : Nat} {b : Int32} (h : TK A A2 n at9 o w b) (j : Nat) : A2 3 j = A 3 j := by rw [h.1 3 (by decide) (by decide) (by decide)]
theorem beg_w {A : Nat → Nat → Int32} {n j : Nat} {kd pa wi : Int32} (h : j ≠ n) : begA A n kd pa wi 3 j = A 3 j := pk_un h
theorem beg_w0 {A : Nat → Nat → Int32} {n : Nat} {kd pa wi : Int32} : begA A n kd pa wi 3 n = wi := pk_us
set_option maxHeartbeats 4000000 in
set_option maxRecDepth 100000 in
theorem m_wholes_full (l : Launch) (D : va_G) (B : Nat) (K : Nat → ClassId) (f : St) (r : Nat → Nat) (f0 : St) (A : Nat → Nat → Int32) (L : Nat → Nat → Int64) (I : Nat → Int32) (n : Nat) (a b : Int64) (hM : MC K r f0 f A L I) (hI0 : I 0 = nI n) (hn : n = 40) : Kc l D B K yX9_wholes cX9_wholes 5 ((some .int)) 4 0 0 [.ref (r 0), .long a, .long b] f (Qi_ D B (fun x f9 => x = -104 ∧ f9 = f)) := by
  refine v_met [(0, .ref (r 0)), (1, .long a), (3, .long b)] (by decide) (Nat.le_of_ble_eq_true rfl) rfl ?_
  intro p e s m args below meth c C hr hlk hin
  refine v_aload_n C dX9_wholes_0 rfl rfl ?_
  refine v_iconst (v := 0) C dX9_wholes_1 (by decide) ?_
  refine v_lload_n C dX9_wholes_2 rfl rfl ?_
  refine v_lload_n C dX9_wholes_3 rfl rfl ?_
  refine v_iconst (v := 1) C dX9_wholes_4 (by decide) ?_
  refine v_ci (r_V C (m_addSingle_full l D B K _ r f0 A L I n _ _ _ _ hM hI0 hn) dX9_wholes_5 hM.1 rfl g_ml_X9_82 g_im_yX9_addSingle g_se_X9_yX9_addSingle_yX9_addSingle g_in_X9 g_cd_yX9_addSingle (rn_le (by decide)) (by decide) rfl rfl hdn_yX9_addSingle (Nat.le_of_ble_eq_true rfl) ⟨Nat.le_of_ble_eq_true rfl, Nat.le_of_ble_eq_true rfl⟩) (fun r_5 f_5 hp_5 => ?_)
  obtain ⟨rfl, rfl⟩ := hp_5
  exact v_iret C hr hlk dX9_wholes_8 (Nat.le_refl _) (Nat.le_refl _) ⟨rfl, rfl⟩

set_option maxHeartbeats 4000000 in
set_option maxRecDepth 100000 in
theorem m_wholes_new (l : Launch) (D : va_G) (B : Nat) (K : Nat → ClassId) (f : St) (r : Nat → Nat) (f0 : St) (A : Nat → Nat → Int32) (L : Nat → Nat → Int64) (I : Nat → Int32) (n : Nat) (a b : Int64) (hM : MC K r f0 f A L I) (hI0 : I 0 = nI n) (hn : n < 40) (hq : okS (0, a, b, 1)) : Kc l D B K yX9_wholes cX9_wholes 5 ((some .int)) 4 0 0 [.ref (r 0), .long a, .long b] f (Qi_ D B (fun x f9 => x = nI n ∧ MC K r f0 f9 (addA A n 0 1) (addL L n (0, a, b, 1)) (up1 I 0 (nI (n + 1))))) := by
  refine v_met [(0, .ref (r 0)), (1, .long a), (3, .long b)] (by decide) (Nat.le_of_ble_eq_true rfl) rfl ?_
  intro p e s m args below meth c C hr hlk hin
  refine v_aload_n C dX9_wholes_0 rfl rfl ?_
  refine v_iconst (v := 0) C dX9_wholes_1 (by decide) ?_
  refine v_lload_n C dX9_wholes_2 rfl rfl ?_
  refine v_lload_n C dX9_wholes_3 rfl rfl ?_
  refine v_iconst (v := 1) C dX9_wholes_4 (by decide) ?_
  refine v_ci (r_V C (m_addSingle_new l D B K _ r f0 A L I n _ _ _ _ hM hI0 hn hq) dX9_wholes_5 hM.1 rfl g_ml_X9_82 g_im_yX9_addSingle g_se_X9_yX9_addSingle_yX9_addSingle g_in_X9 g_cd_yX9_addSingle (rn_le (by decide)) (by decide) rfl rfl hdn_yX9_addSingle (Nat.le_of_ble_eq_true rfl) ⟨Nat.le_of_ble_eq_true rfl, Nat.le_of_ble_eq_true rfl⟩) (fun r_5 f_5 hp_5 => ?_)
  obtain ⟨rfl, hM⟩ := hp_5
  exact v_iret C hr hlk dX9_wholes_8 (Nat.le_refl _) (Nat.le_refl _) ⟨rfl, hM⟩

set_option maxHeartbeats 4000000 in
set_option maxRecDepth 100000 in
theorem m_signs_out (l : Launch) (D : va_G) (B : Nat) (K : Nat → ClassId) (f : St) (r : Nat → Nat) (f0 : St) (A : Nat → Nat → Int32) (L : Nat → Nat → Int64) (I : Nat → Int32) (n : Nat) (a b : Int32) (hM : MC K r f0 f A L I) (hI0 : I 0 = nI n) (hout : ¬ (¬ inM a.toInt64 0 65535 = 0 ∧ ¬ inM b.toInt64 0 65535 = 0)) : Kc l D B K yX9_signs cX9_signs 3 ((some .int)) 4 0 0 [.ref (r 0), .int a, .int b] f (Qi_ D B (fun x f9 => x = -102 ∧ f9 = f)) := by
  refine v_met [(0, .ref (r 0)), (1, .int a), (2, .int b)] (by decide) (Nat.le_of_ble_eq_true rfl) rfl ?_
  intro p e s m args below meth c C hr hlk hin
  by_cases k0 : ¬ inM a.toInt64 0 65535 = 0
  rotate_left
  · refine v_iload_n C dX9_signs_0 rfl rfl ?_
    refine v_i2l C dX9_signs_1 ?_
    refine v_lconst (v := 0) C dX9_signs_2 (by decide) ?_
    refine v_ldc2 C dX9_signs_3 g_kl_X9_86 ?_
    refine v_ci (r_S C (m_in l D B K _ _ _ _) dX9_signs_6 g_ml_X9_58 g_st_yX9_in g_in_X9 g_cd_yX9_in (rn_le (by decide)) (by decide) rfl hdn_yX9_in (Nat.le_of_ble_eq_true rfl) ⟨Nat.le_of_ble_eq_true rfl, Nat.le_of_ble_eq_true rfl⟩) (fun r_6 f_6 hp_6 => ?_)
    obtain ⟨rfl, hf9⟩ := hp_6
    have hf9 := hf9.symm
    subst hf9
    refine v_if_eq (tgt := 37) C dX9_signs_9 (by decide) (fun c_9 => ?_) (fun c_9 => absurd (Classical.not_not.mp k0) c_9)
    refine v_bipush (v := (-102)) C dX9_signs_37 (by decide) ?_
    exact v_iret C hr hlk dX9_signs_39 (Nat.le_refl _) (Nat.le_refl _) ⟨rfl, rfl⟩
  by_cases k1 : ¬ inM b.toInt64 0 65535 = 0
  rotate_left
  · refine v_iload_n C dX9_signs_0 rfl rfl ?_
    refine v_i2l C dX9_signs_1 ?_
    refine v_lconst (v := 0) C dX9_signs_2 (by decide) ?_
    refine v_ldc2 C dX9_signs_3 g_kl_X9_86 ?_
    refine v_ci (r_S C (m_in l D B K _ _ _ _) dX9_signs_6 g_ml_X9_58 g_st_yX9_in g_in_X9 g_cd_yX9_in (rn_le (by decide)) (by decide) rfl hdn_yX9_in (Nat.le_of_ble_eq_true rfl) ⟨Nat.le_of_ble_eq_true rfl, Nat.le_of_ble_eq_true rfl⟩) (fun r_6 f_6 hp_6 => ?_)
    obtain ⟨rfl, hf9⟩ := hp_6
    have hf9 := hf9.symm
    subst hf9
    refine v_if_eq (tgt := 37) C dX9_signs_9 (by decide) (fun c_9 => absurd c_9 k0) (fun c_9 => ?_)
    refine v_iload_n C dX9_signs_12 rfl rfl ?_
    refine v_i2l C dX9_signs_13 ?_
    refine v_lconst (v := 0) C dX9_signs_14 (by decide) ?_
    refine v_ldc2 C dX9_signs_15 g_kl_X9_86 ?_
    refine v_ci (r_S C (m_in l D B K _ _ _ _) dX9_signs_18 g_ml_X9_58 g_st_yX9_in g_in_X9 g_cd_yX9_in (rn_le (by decide)) (by decide) rfl hdn_yX9_in (Nat.le_of_ble_eq_true rfl) ⟨Nat.le_of_ble_eq_true rfl, Nat.le_of_ble_eq_true rfl⟩) (fun r_18 f_18 hp_18 => ?_)
    obtain ⟨rfl, hf9⟩ := hp_18
    have hf9 := hf9.symm
    subst hf9
    refine v_if_eq (tgt := 37) C dX9_signs_21 (by decide) (fun c_21 => ?_) (fun c_21 => absurd (Classical.not_not.mp k1) c_21)
    refine v_bipush (v := (-102)) C dX9_signs_37 (by decide) ?_
    exact v_iret C hr hlk dX9_signs_39 (Nat.le_refl _) (Nat.le_refl _) ⟨rfl, rfl⟩
  exact absurd ⟨k0, k1⟩ hout

set_option maxHeartbeats 4000000 in
set_option maxRecDepth 100000 in
theorem m_signs_full (l : Launch) (D : va_G) (B : Nat) (K : Nat → ClassId) (f : St) (r : Nat → Nat) (f0 : St) (A : Nat → Nat → Int32) (L : Nat → Nat → Int64) (I : Nat → Int32) (n : Nat) (a b : Int32) (hM : MC K r f0 f A L I) (hI0 : I 0 = nI n) (hin9 : ¬ inM a.toInt64 0 65535 = 0 ∧ ¬ inM b.toInt64 0 65535 = 0) (hn : n = 40) : Kc l D B K yX9_signs cX9_signs 3 ((some .int)) 4 0 0 [.ref (r 0), .int a, .int b] f (Qi_ D B (fun x f9 => x = -104 ∧ f9 = f)) := by
  refine v_met [(0, .ref (r 0)), (1, .int a), (2, .int b)] (by decide) (Nat.le_of_ble_eq_true rfl) rfl ?_
  intro p e s m args below meth c C hr hlk hin
  refine v_iload_n C dX9_signs_0 rfl rfl ?_
  refine v_i2l C dX9_signs_1 ?_
  refine v_lconst (v := 0) C dX9_signs_2 (by decide) ?_
  refine v_ldc2 C dX9_signs_3 g_kl_X9_86 ?_
  refine v_ci (r_S C (m_in l D B K _ _ _ _) dX9_signs_6 g_ml_X9_58 g_st_yX9_in g_in_X9 g_cd_yX9_in (rn_le (by decide)) (by decide) rfl hdn_yX9_in (Nat.le_of_ble_eq_true rfl) ⟨Nat.le_of_ble_eq_true rfl, Nat.le_of_ble_eq_true rfl⟩) (fun r_6 f_6 hp_6 => ?_)
  obtain ⟨rfl, hf9⟩ := hp_6
  have hf9 := hf9.symm
  subst hf9
  refine v_if_eq (tgt := 37) C dX9_signs_9 (by decide) (fun c_9 => absurd c_9 hin9.1) (fun c_9 => ?_)
  refine v_iload_n C dX9_signs_12 rfl rfl ?_
  refine v_i2l C dX9_signs_13 ?_
  refine v_lconst (v := 0) C dX9_signs_14 (by decide) ?_
  refine v_ldc2 C dX9_signs_15 g_kl_X9_86 ?_
  refine v_ci (r_S C (m_in l D B K _ _ _ _) dX9_signs_18 g_ml_X9_58 g_st_yX9_in g_in_X9 g_cd_yX9_in (rn_le (by decide)) (by decide) rfl hdn_yX9_in (Nat.le_of_ble_eq_true rfl) ⟨Nat.le_of_ble_eq_true rfl, Nat.le_of_ble_eq_true rfl⟩) (fun r_18 f_18 hp_18 => ?_)
  obtain ⟨rfl, hf9⟩ := hp_18
  have hf9 := hf9.symm
  subst hf9
  refine v_if_eq (tgt := 37) C dX9_signs_21 (by decide) (fun c_21 => absurd c_21 hin9.2) (fun c_21 => ?_)
  refine v_aload_n C dX9_signs_24 rfl rfl ?_
  refine v_iconst (v := 1) C dX9_signs_25 (by decide) ?_
  refine v_iload_n C dX9_signs_26 rfl rfl ?_
  refine v_i2l C dX9_signs_27 ?_
  refine v_iload_n C dX9_signs_28 rfl rfl ?_
  refine v_i2l C dX9_signs_29 ?_
  refine v_iconst (v := 1) C dX9_signs_30 (by decide) ?_
  refine v_ci (r_V C (m_addSingle_full l D B K _ r f0 A L I n _ _ _ _ hM hI0 hn) dX9_signs_31 hM.1 rfl g_ml_X9_82 g_im_yX9_addSingle g_se_X9_yX9_addSingle_yX9_addSingle g_in_X9 g_cd_yX9_addSingle (rn_le (by decide)) (by decide) rfl rfl hdn_yX9_addSingle (Nat.le_of_ble_eq_true rfl) ⟨Nat.le_of_ble_eq_true rfl, Nat.le_of_ble_eq_true rfl⟩) (fun r_31 f_31 hp_31 => ?_)
  obtain ⟨rfl, rfl⟩ := hp_31
  refine v_goto (tgt := 39) C dX9_signs_34 (by decide) ?_
  exact v_iret C hr hlk dX9_signs_39 (Nat.le_refl _) (Nat.le_refl _) ⟨rfl, rfl⟩

set_option maxHeartbeats 4000000 in
set_option maxRecDepth 100000 in
theorem m_signs_new (l : Launch) (D : va_G) (B : Nat) (K : Nat → ClassId) (f : St) (r : Nat → Nat) (f0 : St) (A : Nat → Nat → Int32) (L : Nat → Nat → Int64) (I : Nat → Int32) (n : Nat) (a b : Int32) (hM : MC K r f0 f A L I) (hI0 : I 0 = nI n) (hin9 : ¬ inM a.toInt64 0 65535 = 0 ∧ ¬ inM b.toInt64 0 65535 = 0) (hn : n < 40) (hq : okS (1, a.toInt64, b.toInt64, 1)) : Kc l D B K yX9_signs cX9_signs 3 ((some .int)) 4 0 0 [.ref (r 0), .int a, .int b] f (Qi_ D B (fun x f9 => x = nI n ∧ MC K r f0 f9 (addA A n 1 1) (addL L n (1, a.toInt64, b.toInt64, 1)) (up1 I 0 (nI (n + 1))))) := by
  refine v_met [(0, .ref (r 0)), (1, .int a), (2, .int b)] (by decide) (Nat.le_of_ble_eq_true rfl) rfl ?_
  intro p e s m args below meth c C hr hlk hin
  refine v_iload_n C dX9_signs_0 rfl rfl ?_
  refine v_i2l C dX9_signs_1 ?_
  refine v_lconst (v := 0) C dX9_signs_2 (by decide) ?_
  refine v_ldc2 C dX9_signs_3 g_kl_X9_86 ?_
  refine v_ci (r_S C (m_in l D B K _ _ _ _) dX9_signs_6 g_ml_X9_58 g_st_yX9_in g_in_X9 g_cd_yX9_in (rn_le (by decide)) (by decide) rfl hdn_yX9_in (Nat.le_of_ble_eq_true rfl) ⟨Nat.le_of_ble_eq_true rfl, Nat.le_of_ble_eq_true rfl⟩) (fun r_6 f_6 hp_6 => ?_)
  obtain ⟨rfl, hf9⟩ := hp_6
  have hf9 := hf9.symm
  subst hf9
  refine v_if_eq (tgt := 37) C dX9_signs_9 (by decide) (fun c_9 => absurd c_9 hin9.1) (fun c_9 => ?_)
  refine v_iload_n C dX9_signs_12 rfl rfl ?_
  refine v_i2l C dX9_signs_13 ?_
  refine v_lconst (v := 0) C dX9_signs_14 (by decide) ?_
  refine v_ldc2 C dX9_signs_15 g_kl_X9_86 ?_
  refine v_ci (r_S C (m_in l D B K _ _ _ _) dX9_signs_18 g_ml_X9_58 g_st_yX9_in g_in_X9 g_cd_yX9_in (rn_le (by decide)) (by decide) rfl hdn_yX9_in (Nat.le_of_ble_eq_true rfl) ⟨Nat.le_of_ble_eq_true rfl, Nat.le_of_ble_eq_true rfl⟩) (fun r_18 f_18 hp_18 => ?_)
  obtain ⟨rfl, hf9⟩ := hp_18
  have hf9 := hf9.symm
  subst hf9
  refine v_if_eq (tgt := 37) C dX9_signs_21 (by decide) (fun c_21 => absurd c_21 hin9.2) (fun c_21 => ?_)
  refine v_aload_n C dX9_signs_24 rfl rfl ?_
  refine v_iconst (v := 1) C dX9_signs_25 (by decide) ?_
  refine v_iload_n C dX9_signs_26 rfl rfl ?_
  refine v_i2l C dX9_signs_27 ?_
  refine v_iload_n C dX9_signs_28 rfl rfl ?_
  refine v_i2l C dX9_signs_29 ?_
  refine v_iconst (v := 1) C dX9_signs_30 (by decide) ?_
  refine v_ci (r_V C (m_addSingle_new l D B K _ r f0 A L I n _ _ _ _ hM hI0 hn hq) dX9_signs_31 hM.1 rfl g_ml_X9_82 g_im_yX9_addSingle g_se_X9_yX9_addSingle_yX9_addSingle g_in_X9 g_cd_yX9_addSingle (rn_le (by decide)) (by decide) rfl rfl hdn_yX9_addSingle (Nat.le_of_ble_eq_true rfl) ⟨Nat.le_of_ble_eq_true rfl, Nat.le_of_ble_eq_true rfl⟩) (fun r_31 f_31 hp_31 => ?_)
  obtain ⟨rfl, hM⟩ := hp_31
  refine v_goto (tgt := 39) C dX9_signs_34 (by decide) ?_
  exact v_iret C hr hlk dX9_signs_39 (Nat.le_refl _) (Nat.le_refl _) ⟨rfl, hM⟩

set_option maxHeartbeats 4000000 in
set_option maxRecDepth 100000 in
theorem m_names_out (l : Launch) (D : va_G) (B : Nat) (K : Nat → ClassId) (f : St) (r : Nat → Nat) (f0 : St) (A : Nat → Nat → Int32) (L : Nat → Nat → Int64) (I : Nat → Int32) (n : Nat) (n9 a b : Int32) (hM : MC K r f0 f A L I) (hI0 : I 0 = nI n) (hout : ¬ (¬ inM n9.toInt64 1 20 = 0 ∧ ¬ inM a.toInt64 0 (n9 - 1).toInt64 = 0 ∧ ¬ inM b.toInt64 0 (n9 - 1).toInt64 = 0)) : Kc l D B K yX9_names cX9_names 4 ((some .int)) 4 0 0 [.ref (r 0), .int n9, .int a, .int b] f (Qi_ D B (fun x f9 => x = -102 ∧ f9 = f)) := by
  refine v_met [(0, .ref (r 0)), (1, .int n9), (2, .int a), (3, .int b)] (by decide) (Nat.le_of_ble_eq_true rfl) rfl ?_
  intro p e s m args below meth c C hr hlk hin
  by_cases k0 : ¬ inM n9.toInt64 1 20 = 0
  rotate_left
  · refine v_iload_n C dX9_names_0 rfl rfl ?_
    refine v_i2l C dX9_names_1 ?_
    refine v_lconst (v := 1) C dX9_names_2 (by decide) ?_
    refine v_ldc2 C dX9_names_3 g_kl_X9_88 ?_
    refine v_ci (r_S C (m_in l D B K _ _ _ _) dX9_names_6 g_ml_X9_58 g_st_yX9_in g_in_X9 g_cd_yX9_in (rn_le (by decide)) (by decide) rfl hdn_yX9_in (Nat.le_of_ble_eq_true rfl) ⟨Nat.le_of_ble_eq_true rfl, Nat.le_of_ble_eq_true rfl⟩) (fun r_6 f_6 hp_6 => ?_)
    obtain ⟨rfl, hf9⟩ := hp_6
    have hf9 := hf9.symm
    subst hf9
    refine v_if_eq (tgt := 51) C dX9_names_9 (by decide) (fun c_9 => ?_) (fun c_9 => absurd (Classical.not_not.mp k0) c_9)
    refine v_bipush (v := (-102)) C dX9_names_51 (by decide) ?_
    exact v_iret C hr hlk dX9_names_53 (Nat.le_refl _) (Nat.le_refl _) ⟨rfl, rfl⟩
  by_cases k1 : ¬ inM a.toInt64 0 (n9 - 1).toInt64 = 0
  rotate_left
  · refine v_iload_n C dX9_names_0 rfl rfl ?_
    refine v_i2l C dX9_names_1 ?_
    refine v_lconst (v := 1) C dX9_names_2 (by decide) ?_
    refine v_ldc2 C dX9_names_3 g_kl_X9_88 ?_
    refine v_ci (r_S C (m_in l D B K _ _ _ _) dX9_names_6 g_ml_X9_58 g_st_yX9_in g_in_X9 g_cd_yX9_in (rn_le (by decide)) (by decide) rfl hdn_yX9_in (Nat.le_of_ble_eq_true rfl) ⟨Nat.le_of_ble_eq_true rfl, Nat.le_of_ble_eq_true rfl⟩) (fun r_6 f_6 hp_6 => ?_)
    obtain ⟨rfl, hf9⟩ := hp_6
    have hf9 := hf9.symm
    subst hf9
    refine v_if_eq (tgt := 51) C dX9_names_9 (by decide) (fun c_9 => absurd c_9 k0) (fun c_9 => ?_)
    refine v_iload_n C dX9_names_12 rfl rfl ?_
    refine v_i2l C dX9_names_13 ?_
    refine v_lconst (v := 0) C dX9_names_14 (by decide) ?_
    refine v_iload_n C dX9_names_15 rfl rfl ?_
    refine v_iconst (v := 1) C dX9_names_16 (by decide) ?_
    refine v_isub C dX9_names_17 ?_
    refine v_i2l C dX9_names_18 ?_
    refine v_ci (r_S C (m_in l D B K _ _ _ _) dX9_names_19 g_ml_X9_58 g_st_yX9_in g_in_X9 g_cd_yX9_in (rn_le (by decide)) (by decide) rfl hdn_yX9_in (Nat.le_of_ble_eq_true rfl) ⟨Nat.le_of_ble_eq_true rfl, Nat.le_of_ble_eq_true rfl⟩) (fun r_19 f_19 hp_19 => ?_)
    obtain ⟨rfl, hf9⟩ := hp_19
    have hf9 := hf9.symm
    subst hf9
    refine v_if_eq (tgt := 51) C dX9_names_22 (by decide) (fun c_22 => ?_) (fun c_22 => absurd (Classical.not_not.mp k1) c_22)
    refine v_bipush (v := (-102)) C dX9_names_51 (by decide) ?_
    exact v_iret C hr hlk dX9_names_53 (Nat.le_refl _) (Nat.le_refl _) ⟨rfl, rfl⟩
  by_cases k2 : ¬ inM b.toInt64 0 (n9 - 1).toInt64 = 0
  rotate_left
  · refine v_iload_n C dX9_names_0 rfl rfl ?_
    refine v_i2l C dX9_names_1 ?_
    refine v_lconst (v := 1) C dX9_names_2 (by decide) ?_
    refine v_ldc2 C dX9_names_3 g_kl_X9_88 ?_
    refine v_ci (r_S C (m_in l D B K _ _ _ _) dX9_names_6 g_ml_X9_58 g_st_yX9_in g_in_X9 g_cd_yX9_in (rn_le (by decide)) (by decide) rfl hdn_yX9_in (Nat.le_of_ble_eq_true rfl) ⟨Nat.le_of_ble_eq_true rfl, Nat.le_of_ble_eq_true rfl⟩) (fun r_6 f_6 hp_6 => ?_)
    obtain ⟨rfl, hf9⟩ := hp_6
    have hf9 := hf9.symm
    subst hf9
    refine v_if_eq (tgt := 51) C dX9_names_9 (by decide) (fun c_9 => absurd c_9 k0) (fun c_9 => ?_)
    refine v_iload_n C dX9_names_12 rfl rfl ?_
    refine v_i2l C dX9_names_13 ?_
    refine v_lconst (v := 0) C dX9_names_14 (by decide) ?_
    refine v_iload_n C dX9_names_15 rfl rfl ?_
    refine v_iconst (v := 1) C dX9_names_16 (by decide) ?_
    refine v_isub C dX9_names_17 ?_
    refine v_i2l C dX9_names_18 ?_
    refine v_ci (r_S C (m_in l D B K _ _ _ _) dX9_names_19 g_ml_X9_58 g_st_yX9_in g_in_X9 g_cd_yX9_in (rn_le (by decide)) (by decide) rfl hdn_yX9_in (Nat.le_of_ble_eq_true rfl) ⟨Nat.le_of_ble_eq_true rfl, Nat.le_of_ble_eq_true rfl⟩) (fun r_19 f_19 hp_19 => ?_)
    obtain ⟨rfl, hf9⟩ := hp_19
    have hf9 := hf9.symm
    subst hf9
    refine v_if_eq (tgt := 51) C dX9_names_22 (by decide) (fun c_22 => absurd c_22 k1) (fun c_22 => ?_)
    refine v_iload_n C dX9_names_25 rfl rfl ?_
    refine v_i2l C dX9_names_26 ?_
    refine v_lconst (v := 0) C dX9_names_27 (by decide) ?_
    refine v_iload_n C dX9_names_28 rfl rfl ?_
    refine v_iconst (v := 1) C dX9_names_29 (by decide) ?_
    refine v_isub C dX9_names_30 ?_
    refine v_i2l C dX9_names_31 ?_
    refine v_ci (r_S C (m_in l D B K _ _ _ _) dX9_names_32 g_ml_X9_58 g_st_yX9_in g_in_X9 g_cd_yX9_in (rn_le (by decide)) (by decide) rfl hdn_yX9_in (Nat.le_of_ble_eq_true rfl) ⟨Nat.le_of_ble_eq_true rfl, Nat.le_of_ble_eq_true rfl⟩) (fun r_32 f_32 hp_32 => ?_)
    obtain ⟨rfl, hf9⟩ := hp_32
    have hf9 := hf9.symm
    subst hf9
    refine v_if_eq (tgt := 51) C dX9_names_35 (by decide) (fun c_35 => ?_) (fun c_35 => absurd (Classical.not_not.mp k2) c_35)
    refine v_bipush (v := (-102)) C dX9_names_51 (by decide) ?_
    exact v_iret C hr hlk dX9_names_53 (Nat.le_refl _) (Nat.le_refl _) ⟨rfl, rfl⟩
  exact absurd ⟨k0, k1, k2⟩ hout

set_option maxHeartbeats 4000000 in
set_option maxRecDepth 100000 in
theorem m_names_full (l : Launch) (D : va_G) (B : Nat) (K : Nat → ClassId) (f : St) (r : Nat → Nat) (f0 : St) (A : Nat → Nat → Int32) (L : Nat → Nat → Int64) (I : Nat → Int32) (n : Nat) (n9 a b : Int32) (hM : MC K r f0 f A L I) (hI0 : I 0 = nI n) (hin9 : ¬ inM n9.toInt64 1 20 = 0 ∧ ¬ inM a.toInt64 0 (n9 - 1).toInt64 = 0 ∧ ¬ inM b.toInt64 0 (n9 - 1).toInt64 = 0) (hn : n = 40) : Kc l D B K yX9_names cX9_names 4 ((some .int)) 4 0 0 [.ref (r 0), .int n9, .int a, .int b] f (Qi_ D B (fun x f9 => x = -104 ∧ f9 = f)) := by
  refine v_met [(0, .ref (r 0)), (1, .int n9), (2, .int a), (3, .int b)] (by decide) (Nat.le_of_ble_eq_true rfl) rfl ?_
  intro p e s m args below meth c C hr hlk hin
  refine v_iload_n C dX9_names_0 rfl rfl ?_
  refine v_i2l C dX9_names_1 ?_
  refine v_lconst (v := 1) C dX9_names_2 (by decide) ?_
  refine v_ldc2 C dX9_names_3 g_kl_X9_88 ?_
  refine v_ci (r_S C (m_in l D B K _ _ _ _) dX9_names_6 g_ml_X9_58 g_st_yX9_in g_in_X9 g_cd_yX9_in (rn_le (by decide)) (by decide) rfl hdn_yX9_in (Nat.le_of_ble_eq_true rfl) ⟨Nat.le_of_ble_eq_true rfl, Nat.le_of_ble_eq_true rfl⟩) (fun r_6 f_6 hp_6 => ?_)
  obtain ⟨rfl, hf9⟩ := hp_6
  have hf9 := hf9.symm
  subst hf9
  refine v_if_eq (tgt := 51) C dX9_names_9 (by decide) (fun c_9 => absurd c_9 hin9.1) (fun c_9 => ?_)
  refine v_iload_n C dX9_names_12 rfl rfl ?_
  refine v_i2l C dX9_names_13 ?_
  refine v_lconst (v := 0) C dX9_names_14 (by decide) ?_
  refine v_iload_n C dX9_names_15 rfl rfl ?_
  refine v_iconst (v := 1) C dX9_names_16 (by decide) ?_
  refine v_isub C dX9_names_17 ?_
  refine v_i2l C dX9_names_18 ?_
  refine v_ci (r_S C (m_in l D B K _ _ _ _) dX9_names_19 g_ml_X9_58 g_st_yX9_in g_in_X9 g_cd_yX9_in (rn_le (by decide)) (by decide) rfl hdn_yX9_in (Nat.le_of_ble_eq_true rfl) ⟨Nat.le_of_ble_eq_true rfl, Nat.le_of_ble_eq_true rfl⟩) (fun r_19 f_19 hp_19 => ?_)
  obtain ⟨rfl, hf9⟩ := hp_19
  have hf9 := hf9.symm
  subst hf9
  refine v_if_eq (tgt := 51) C dX9_names_22 (by decide) (fun c_22 => absurd c_22 hin9.2.1) (fun c_22 => ?_)
  refine v_iload_n C dX9_names_25 rfl rfl ?_
  refine v_i2l C dX9_names_26 ?_
  refine v_lconst (v := 0) C dX9_names_27 (by decide) ?_
  refine v_iload_n C dX9_names_28 rfl rfl ?_
  refine v_iconst (v := 1) C dX9_names_29 (by decide) ?_
  refine v_isub C dX9_names_30 ?_
  refine v_i2l C dX9_names_31 ?_
  refine v_ci (r_S C (m_in l D B K _ _ _ _) dX9_names_32 g_ml_X9_58 g_st_yX9_in g_in_X9 g_cd_yX9_in (rn_le (by decide)) (by decide) rfl hdn_yX9_in (Nat.le_of_ble_eq_true rfl) ⟨Nat.le_of_ble_eq_true rfl, Nat.le_of_ble_eq_true rfl⟩) (fun r_32 f_32 hp_32 => ?_)
  obtain ⟨rfl, hf9⟩ := hp_32
  have hf9 := hf9.symm
  subst hf9
  refine v_if_eq (tgt := 51) C dX9_names_35 (by decide) (fun c_35 => absurd c_35 hin9.2.2) (fun c_35 => ?_)
  refine v_aload_n C dX9_names_38 rfl rfl ?_
  refine v_iconst (v := 2) C dX9_names_39 (by decide) ?_
  refine v_iload_n C dX9_names_40 rfl rfl ?_
  refine v_i2l C dX9_names_41 ?_
  refine v_iload_n C dX9_names_42 rfl rfl ?_
  refine v_i2l C dX9_names_43 ?_
  refine v_iload_n C dX9_names_44 rfl rfl ?_
  refine v_ci (r_V C (m_addSingle_full l D B K _ r f0 A L I n _ _ _ _ hM hI0 hn) dX9_names_45 hM.1 rfl g_ml_X9_82 g_im_yX9_addSingle g_se_X9_yX9_addSingle_yX9_addSingle g_in_X9 g_cd_yX9_addSingle (rn_le (by decide)) (by decide) rfl rfl hdn_yX9_addSingle (Nat.le_of_ble_eq_true rfl) ⟨Nat.le_of_ble_eq_true rfl, Nat.le_of_ble_eq_true rfl⟩) (fun r_45 f_45 hp_45 => ?_)
  obtain ⟨rfl, rfl⟩ := hp_45
  refine v_goto (tgt := 53) C dX9_names_48 (by decide) ?_
  exact v_iret C hr hlk dX9_names_53 (Nat.le_refl _) (Nat.le_refl _) ⟨rfl, rfl⟩

set_option maxHeartbeats 4000000 in
set_option maxRecDepth 100000 in
theorem m_names_new (l : Launch) (D : va_G) (B : Nat) (K : Nat → ClassId) (f : St) (r : Nat → Nat) (f0 : St) (A : Nat → Nat → Int32) (L : Nat → Nat → Int64) (I : Nat → Int32) (n : Nat) (n9 a b : Int32) (hM : MC K r f0 f A L I) (hI0 : I 0 = nI n) (hin9 : ¬ inM n9.toInt64 1 20 = 0 ∧ ¬ inM a.toInt64 0 (n9 - 1).toInt64 = 0 ∧ ¬ inM b.toInt64 0 (n9 - 1).toInt64 = 0) (hn : n < 40) (hq : okS (2, a.toInt64, b.toInt64, n9)) : Kc l D B K yX9_names cX9_names 4 ((some .int)) 4 0 0 [.ref (r 0), .int n9, .int a, .int b] f (Qi_ D B (fun x f9 => x = nI n ∧ MC K r f0 f9 (addA A n 2 n9) (addL L n (2, a.toInt64, b.toInt64, n9)) (up1 I 0 (nI (n + 1))))) := by
  refine v_met [(0, .ref (r 0)), (1, .int n9), (2, .int a), (3, .int b)] (by decide) (Nat.le_of_ble_eq_true rfl) rfl ?_
  intro p e s m args below meth c C hr hlk hin
  refine v_iload_n C dX9_names_0 rfl rfl ?_
  refine v_i2l C dX9_names_1 ?_
  refine v_lconst (v := 1) C dX9_names_2 (by decide) ?_
  refine v_ldc2 C dX9_names_3 g_kl_X9_88 ?_
  refine v_ci (r_S C (m_in l D B K _ _ _ _) dX9_names_6 g_ml_X9_58 g_st_yX9_in g_in_X9 g_cd_yX9_in (rn_le (by decide)) (by decide) rfl hdn_yX9_in (Nat.le_of_ble_eq_true rfl) ⟨Nat.le_of_ble_eq_true rfl, Nat.le_of_ble_eq_true rfl⟩) (fun r_6 f_6 hp_6 => ?_)
  obtain ⟨rfl, hf9⟩ := hp_6
  have hf9 := hf9.symm
  subst hf9
  refine v_if_eq (tgt := 51) C dX9_names_9 (by decide) (fun c_9 => absurd c_9 hin9.1) (fun c_9 => ?_)
  refine v_iload_n C dX9_names_12 rfl rfl ?_
  refine v_i2l C dX9_names_13 ?_
  refine v_lconst (v := 0) C dX9_names_14 (by decide) ?_
  refine v_iload_n C dX9_names_15 rfl rfl ?_
  refine v_iconst (v := 1) C dX9_names_16 (by decide) ?_
  refine v_isub C dX9_names_17 ?_
  refine v_i2l C dX9_names_18 ?_
  refine v_ci (r_S C (m_in l D B K _ _ _ _) dX9_names_19 g_ml_X9_58 g_st_yX9_in g_in_X9 g_cd_yX9_in (rn_le (by decide)) (by decide) rfl hdn_yX9_in (Nat.le_of_ble_eq_true rfl) ⟨Nat.le_of_ble_eq_true rfl, Nat.le_of_ble_eq_true rfl⟩) (fun r_19 f_19 hp_19 => ?_)
  obtain ⟨rfl, hf9⟩ := hp_19
  have hf9 := hf9.symm
  subst hf9
  refine v_if_eq (tgt := 51) C dX9_names_22 (by decide) (fun c_22 => absurd c_22 hin9.2.1) (fun c_22 => ?_)
  refine v_iload_n C dX9_names_25 rfl rfl ?_
  refine v_i2l C dX9_names_26 ?_
  refine v_lconst (v := 0) C dX9_names_27 (by decide) ?_
  refine v_iload_n C dX9_names_28 rfl rfl ?_
  refine v_iconst (v := 1) C dX9_names_29 (by decide) ?_
  refine v_isub C dX9_names_30 ?_
  refine v_i2l C dX9_names_31 ?_
  refine v_ci (r_S C (m_in l D B K _ _ _ _) dX9_names_32 g_ml_X9_58 g_st_yX9_in g_in_X9 g_cd_yX9_in (rn_le (by decide)) (by decide) rfl hdn_yX9_in (Nat.le_of_ble_eq_true rfl) ⟨Nat.le_of_ble_eq_true rfl, Nat.le_of_ble_eq_true rfl⟩) (fun r_32 f_32 hp_32 => ?_)
  obtain ⟨rfl, hf9⟩ := hp_32
  have hf9 := hf9.symm
  subst hf9
  refine v_if_eq (tgt := 51) C dX9_names_35 (by decide) (fun c_35 => absurd c_35 hin9.2.2) (fun c_35 => ?_)
  refine v_aload_n C dX9_names_38 rfl rfl ?_
  refine v_iconst (v := 2) C dX9_names_39 (by decide) ?_
  refine v_iload_n C dX9_names_40 rfl rfl ?_
  refine v_i2l C dX9_names_41 ?_
  refine v_iload_n C dX9_names_42 rfl rfl ?_
  refine v_i2l C dX9_names_43 ?_
  refine v_iload_n C dX9_names_44 rfl rfl ?_
  refine v_ci (r_V C (m_addSingle_new l D B K _ r f0 A L I n _ _ _ _ hM hI0 hn hq) dX9_names_45 hM.1 rfl g_ml_X9_82 g_im_yX9_addSingle g_se_X9_yX9_addSingle_yX9_addSingle g_in_X9 g_cd_yX9_addSingle (rn_le (by decide)) (by decide) rfl rfl hdn_yX9_addSingle (Nat.le_of_ble_eq_true rfl) ⟨Nat.le_of_ble_eq_true rfl, Nat.le_of_ble_eq_true rfl⟩) (fun r_45 f_45 hp_45 => ?_)
  obtain ⟨rfl, hM⟩ := hp_45
  refine v_goto (tgt := 53) C dX9_names_48 (by decide) ?_
  exact v_iret C hr hlk dX9_names_53 (Nat.le_refl _) (Nat.le_refl _) ⟨rfl, hM⟩

set_option maxHeartbeats 4000000 in
set_option maxRecDepth 100000 in
theorem m_steps_out (l : Launch) (D : va_G) (B : Nat) (K : Nat → ClassId) (f : St) (r : Nat → Nat) (f0 : St) (A : Nat → Nat → Int32) (L : Nat → Nat → Int64) (I : Nat → Int32) (n : Nat) (a b : Int64) (s9 : Int32) (hM : MC K r f0 f A L I) (hI0 : I 0 = nI n) (hout : ¬ (¬ inM s9.toInt64 (-1000000) 1000000 = 0 ∧ ¬ s9 = 0)) : Kc l D B K yX9_steps cX9_steps 6 ((some .int)) 4 0 0 [.ref (r 0), .long a, .long b, .int s9] f (Qi_ D B (fun x f9 => x = -102 ∧ f9 = f)) := by
  refine v_met [(0, .ref (r 0)), (1, .long a), (3, .long b), (5, .int s9)] (by decide) (Nat.le_of_ble_eq_true rfl) rfl ?_
  intro p e s m args below meth c C hr hlk hin
  by_cases k0 : ¬ inM s9.toInt64 (-1000000) 1000000 = 0
  rotate_left
  · refine v_iload C dX9_steps_0 rfl ?_
    refine v_i2l C dX9_steps_2 ?_
    refine v_ldc2 C dX9_steps_3 g_kl_X9_90 ?_
    refine v_ldc2 C dX9_steps_6 g_kl_X9_92 ?_
    refine v_ci (r_S C (m_in l D B K _ _ _ _) dX9_steps_9 g_ml_X9_58 g_st_yX9_in g_in_X9 g_cd_yX9_in (rn_le (by decide)) (by decide) rfl hdn_yX9_in (Nat.le_of_ble_eq_true rfl) ⟨Nat.le_of_ble_eq_true rfl, Nat.le_of_ble_eq_true rfl⟩) (fun r_9 f_9 hp_9 => ?_)
    obtain ⟨rfl, hf9⟩ := hp_9
    have hf9 := hf9.symm
    subst hf9
    refine v_if_eq (tgt := 32) C dX9_steps_12 (by decide) (fun c_12 => ?_) (fun c_12 => absurd (Classical.not_not.mp k0) c_12)
    refine v_bipush (v := (-102)) C dX9_steps_32 (by decide) ?_
    exact v_iret C hr hlk dX9_steps_34 (Nat.le_refl _) (Nat.le_refl _) ⟨rfl, rfl⟩
  by_cases k1 : ¬ s9 = 0
  rotate_left
  · refine v_iload C dX9_steps_0 rfl ?_
    refine v_i2l C dX9_steps_2 ?_
    refine v_ldc2 C dX9_steps_3 g_kl_X9_90 ?_
    refine v_ldc2 C dX9_steps_6 g_kl_X9_92 ?_
    refine v_ci (r_S C (m_in l D B K _ _ _ _) dX9_steps_9 g_ml_X9_58 g_st_yX9_in g_in_X9 g_cd_yX9_in (rn_le (by decide)) (by decide) rfl hdn_yX9_in (Nat.le_of_ble_eq_true rfl) ⟨Nat.le_of_ble_eq_true rfl, Nat.le_of_ble_eq_true rfl⟩) (fun r_9 f_9 hp_9 => ?_)
    obtain ⟨rfl, hf9⟩ := hp_9
    have hf9 := hf9.symm
    subst hf9
    refine v_if_eq (tgt := 32) C dX9_steps_12 (by decide) (fun c_12 => absurd c_12 k0) (fun c_12 => ?_)
    refine v_iload C dX9_steps_15 rfl ?_
    refine v_if_eq (tgt := 32) C dX9_steps_17 (by decide) (fun c_17 => ?_) (fun c_17 => absurd (Classical.not_not.mp k1) c_17)
    refine v_bipush (v := (-102)) C dX9_steps_32 (by decide) ?_
    exact v_iret C hr hlk dX9_steps_34 (Nat.le_refl _) (Nat.le_refl _) ⟨rfl, rfl⟩
  exact absurd ⟨k0, k1⟩ hout

set_option maxHeartbeats 4000000 in
set_option maxRecDepth 100000 in
theorem m_steps_full (l : Launch) (D : va_G) (B : Nat) (K : Nat → ClassId) (f : St) (r : Nat → Nat) (f0 : St) (A : Nat → Nat → Int32) (L : Nat → Nat → Int64) (I : Nat → Int32) (n : Nat) (a b : Int64) (s9 : Int32) (hM : MC K r f0 f A L I) (hI0 : I 0 = nI n) (hin9 : ¬ inM s9.toInt64 (-1000000) 1000000 = 0 ∧ ¬ s9 = 0) (hn : n = 40) : Kc l D B K yX9_steps cX9_steps 6 ((some .int)) 4 0 0 [.ref (r 0), .long a, .long b, .int s9] f (Qi_ D B (fun x f9 => x = -104 ∧ f9 = f)) := by
  refine v_met [(0, .ref (r 0)), (1, .long a), (3, .long b), (5, .int s9)] (by decide) (Nat.le_of_ble_eq_true rfl) rfl ?_
  intro p e s m args below meth c C hr hlk hin
  refine v_iload C dX9_steps_0 rfl ?_
  refine v_i2l C dX9_steps_2 ?_
  refine v_ldc2 C dX9_steps_3 g_kl_X9_90 ?_
  refine v_ldc2 C dX9_steps_6 g_kl_X9_92 ?_
  refine v_ci (r_S C (m_in l D B K _ _ _ _) dX9_steps_9 g_ml_X9_58 g_st_yX9_in g_in_X9 g_cd_yX9_in (rn_le (by decide)) (by decide) rfl hdn_yX9_in (Nat.le_of_ble_eq_true rfl) ⟨Nat.le_of_ble_eq_true rfl, Nat.le_of_ble_eq_true rfl⟩) (fun r_9 f_9 hp_9 => ?_)
  obtain ⟨rfl, hf9⟩ := hp_9
  have hf9 := hf9.symm
  subst hf9
  refine v_if_eq (tgt := 32) C dX9_steps_12 (by decide) (fun c_12 => absurd c_12 hin9.1) (fun c_12 => ?_)
  refine v_iload C dX9_steps_15 rfl ?_
  refine v_if_eq (tgt := 32) C dX9_steps_17 (by decide) (fun c_17 => absurd c_17 hin9.2) (fun c_17 => ?_)
  refine v_aload_n C dX9_steps_20 rfl rfl ?_
  refine v_iconst (v := 3) C dX9_steps_21 (by decide) ?_
  refine v_lload_n C dX9_steps_22 rfl rfl ?_
  refine v_lload_n C dX9_steps_23 rfl rfl ?_
  refine v_iload C dX9_steps_24 rfl ?_
  refine v_ci (r_V C (m_addSingle_full l D B K _ r f0 A L I n _ _ _ _ hM hI0 hn) dX9_steps_26 hM.1 rfl g_ml_X9_82 g_im_yX9_addSingle g_se_X9_yX9_addSingle_yX9_addSingle g_in_X9 g_cd_yX9_addSingle (rn_le (by decide)) (by decide) rfl rfl hdn_yX9_addSingle (Nat.le_of_ble_eq_true rfl) ⟨Nat.le_of_ble_eq_true rfl, Nat.le_of_ble_eq_true rfl⟩) (fun r_26 f_26 hp_26 => ?_)
  obtain ⟨rfl, rfl⟩ := hp_26
  refine v_goto (tgt := 34) C dX9_steps_29 (by decide) ?_
  exact v_iret C hr hlk dX9_steps_34 (Nat.le_refl _) (Nat.le_refl _) ⟨rfl, rfl⟩

set_option maxHeartbeats 4000000 in
set_option maxRecDepth 100000 in
theorem m_steps_new (l : Launch) (D : va_G) (B : Nat) (K : Nat → ClassId) (f : St) (r : Nat → Nat) (f0 : St) (A : Nat → Nat → Int32) (L : Nat → Nat → Int64) (I : Nat → Int32) (n : Nat) (a b : Int64) (s9 : Int32) (hM : MC K r f0 f A L I) (hI0 : I 0 = nI n) (hin9 : ¬ inM s9.toInt64 (-1000000) 1000000 = 0 ∧ ¬ s9 = 0) (hn : n < 40) (hq : okS (3, a, b, s9)) : Kc l D B K yX9_steps cX9_steps 6 ((some .int)) 4 0 0 [.ref (r 0), .long a, .long b, .int s9] f (Qi_ D B (fun x f9 => x = nI n ∧ MC K r f0 f9 (addA A n 3 s9) (addL L n (3, a, b, s9)) (up1 I 0 (nI (n + 1))))) := by
  refine v_met [(0, .ref (r 0)), (1, .long a), (3, .long b), (5, .int s9)] (by decide) (Nat.le_of_ble_eq_true rfl) rfl ?_
  intro p e s m args below meth c C hr hlk hin
  refine v_iload C dX9_steps_0 rfl ?_
  refine v_i2l C dX9_steps_2 ?_
  refine v_ldc2 C dX9_steps_3 g_kl_X9_90 ?_
  refine v_ldc2 C dX9_steps_6 g_kl_X9_92 ?_
  refine v_ci (r_S C (m_in l D B K _ _ _ _) dX9_steps_9 g_ml_X9_58 g_st_yX9_in g_in_X9 g_cd_yX9_in (rn_le (by decide)) (by decide) rfl hdn_yX9_in (Nat.le_of_ble_eq_true rfl) ⟨Nat.le_of_ble_eq_true rfl, Nat.le_of_ble_eq_true rfl⟩) (fun r_9 f_9 hp_9 => ?_)
  obtain ⟨rfl, hf9⟩ := hp_9
  have hf9 := hf9.symm
  subst hf9
  refine v_if_eq (tgt := 32) C dX9_steps_12 (by decide) (fun c_12 => absurd c_12 hin9.1) (fun c_12 => ?_)
  refine v_iload C dX9_steps_15 rfl ?_
  refine v_if_eq (tgt := 32) C dX9_steps_17 (by decide) (fun c_17 => absurd c_17 hin9.2) (fun c_17 => ?_)
  refine v_aload_n C dX9_steps_20 rfl rfl ?_
  refine v_iconst (v := 3) C dX9_steps_21 (by decide) ?_
  refine v_lload_n C dX9_steps_22 rfl rfl ?_
  refine v_lload_n C dX9_steps_23 rfl rfl ?_
  refine v_iload C dX9_steps_24 rfl ?_
  refine v_ci (r_V C (m_addSingle_new l D B K _ r f0 A L I n _ _ _ _ hM hI0 hn hq) dX9_steps_26 hM.1 rfl g_ml_X9_82 g_im_yX9_addSingle g_se_X9_yX9_addSingle_yX9_addSingle g_in_X9 g_cd_yX9_addSingle (rn_le (by decide)) (by decide) rfl rfl hdn_yX9_addSingle (Nat.le_of_ble_eq_true rfl) ⟨Nat.le_of_ble_eq_true rfl, Nat.le_of_ble_eq_true rfl⟩) (fun r_26 f_26 hp_26 => ?_)
  obtain ⟨rfl, hM⟩ := hp_26
  refine v_goto (tgt := 34) C dX9_steps_29 (by decide) ?_
  exact v_iret C hr hlk dX9_steps_34 (Nat.le_refl _) (Nat.le_refl _) ⟨rfl, hM⟩

set_option maxHeartbeats 4000000 in
set_option maxRecDepth 100000 in
theorem m_back_bad (l : Launch) (D : va_G) (B : Nat) (K : Nat → ClassId) (f : St) (r : Nat → Nat) (f0 : St) (A : Nat → Nat → Int32) (L : Nat → Nat → Int64) (I : Nat → Int32) (n : Nat) (hM : MC K r f0 f A L I) (hI0 : I 0 = nI n) (hn40 : n ≤ 40) (x : Int32) (hx : x < 0 ∨ nI n ≤ x) : Kc l D B K yX9_back cX9_back 3 ((some .int)) 4 0 0 [.ref (r 0), .int x] f (Qi_ D B (fun x f9 => x = -101 ∧ f9 = f)) := by
  refine v_met [(0, .ref (r 0)), (1, .int x)] (by decide) (Nat.le_of_ble_eq_true rfl) rfl ?_
  intro p e s m args below meth c C hr hlk hin
  refine v_aload_n C dX9_back_0 rfl rfl ?_
  refine v_iload_n C dX9_back_1 rfl rfl ?_
  refine v_ci (r_V C (m_noRange_bad l D B K _ r f0 A L I n hM hI0 hn40 x hx) dX9_back_2 hM.1 rfl g_ml_X9_101 g_im_yX9_noRange g_se_X9_yX9_noRange_yX9_noRange g_in_X9 g_cd_yX9_noRange (rn_le (by decide)) (by decide) rfl rfl hdn_yX9_noRange (Nat.le_of_ble_eq_true rfl) ⟨Nat.le_of_ble_eq_true rfl, Nat.le_of_ble_eq_true rfl⟩) (fun r_2 f_2 hp_2 => ?_)
  obtain ⟨rfl, hf9⟩ := hp_2
  have hf9 := hf9.symm
  subst hf9
  refine v_if_eq (tgt := 11) C dX9_back_5 (by decide) (fun c_5 => absurd c_5 (by decide)) (fun _ => ?_)
  refine v_bipush (v := (-101)) C dX9_back_8 (by decide) ?_
  exact v_iret C hr hlk dX9_back_10 (Nat.le_refl _) (Nat.le_refl _) ⟨rfl, rfl⟩

set_option maxHeartbeats 4000000 in
set_option maxRecDepth 100000 in
theorem m_back_many (l : Launch) (D : va_G) (B : Nat) (K : Nat → ClassId) (f : St) (r : Nat → Nat) (f0 : St) (A : Nat → Nat → Int32) (L : Nat → Nat → Int64) (I : Nat → Int32) (n : Nat) (hM : MC K r f0 f A L I) (hI0 : I 0 = nI n) (hn40 : n ≤ 40) (sg : Nat → Sg) (l9 : List Ent) (i : Nat) (hi : i < n) (hz : L 4 i = sat (prodE sg l9)) (hb : 9223372036854775808 ≤ prodE sg l9) : Kc l D B K yX9_back cX9_back 3 ((some .int)) 4 0 0 [.ref (r 0), .int (nI i)] f (Qi_ D B (fun x f9 => x = -103 ∧ f9 = f)) := by
  refine v_met [(0, .ref (r 0)), (1, .int (nI i))] (by decide) (Nat.le_of_ble_eq_true rfl) rfl ?_
  intro p e s m args below meth c C hr hlk hin
  refine v_aload_n C dX9_back_0 rfl rfl ?_
  refine v_iload_n C dX9_back_1 rfl rfl ?_
  refine v_ci (r_V C (m_noRange_ok l D B K _ r f0 A L I n hM hI0 hn40 i hi) dX9_back_2 hM.1 rfl g_ml_X9_101 g_im_yX9_noRange g_se_X9_yX9_noRange_yX9_noRange g_in_X9 g_cd_yX9_noRange (rn_le (by decide)) (by decide) rfl rfl hdn_yX9_noRange (Nat.le_of_ble_eq_true rfl) ⟨Nat.le_of_ble_eq_true rfl, Nat.le_of_ble_eq_true rfl⟩) (fun r_2 f_2 hp_2 => ?_)
  obtain ⟨rfl, hf9⟩ := hp_2
  have hf9 := hf9.symm
  subst hf9
  refine v_if_eq (tgt := 11) C dX9_back_5 (by decide) (fun _ => ?_) (fun c_5 => absurd c_5 (by decide))
  refine v_aload_n C dX9_back_11 rfl rfl ?_
  refine v_get C dX9_back_12 4 hM.1 rfl in_X9 (by decide) g_fl_X9_19 (fun _ h9 => h9) rfl ?_
  refine v_iload_n C dX9_back_15 rfl rfl ?_
  refine m_lld C hM dX9_back_16 4 i (by decide) (show _ < 40 by omega) rfl ?_
  refine v_rl (hz.trans (sat_ge hb)) ?_
  refine v_ldc2 C dX9_back_17 g_kl_X9_68 ?_
  refine v_lc_ne (tgt := 27) C dX9_back_20 dX9_back_21 (by decide) (fun c_20 => absurd rfl c_20) (fun c_20 => ?_)
  refine v_bipush (v := (-103)) C dX9_back_24 (by decide) ?_
  exact v_iret C hr hlk dX9_back_26 (Nat.le_refl _) (Nat.le_refl _) ⟨rfl, rfl⟩

set_option maxHeartbeats 4000000 in
set_option maxRecDepth 100000 in
theorem m_back_full (l : Launch) (D : va_G) (B : Nat) (K : Nat → ClassId) (f : St) (r : Nat → Nat) (f0 : St) (A : Nat → Nat → Int32) (L : Nat → Nat → Int64) (I : Nat → Int32) (n : Nat) (hM : MC K r f0 f A L I) (hI0 : I 0 = nI n) (hn40 : n ≤ 40) (sg : Nat → Sg) (l9 : List Ent) (i : Nat) (hi : i < n) (hz : L 4 i = sat (prodE sg l9)) (hb : prodE sg l9 < 9223372036854775808) (hn : n = 40) : Kc l D B K yX9_back cX9_back 3 ((some .int)) 4 0 0 [.ref (r 0), .int (nI i)] f (Qi_ D B (fun x f9 => x = -104 ∧ f9 = f)) := by
  refine v_met [(0, .ref (r 0)), (1, .int (nI i))] (by decide) (Nat.le_of_ble_eq_true rfl) rfl ?_
  intro p e s m args below meth c C hr hlk hin
  refine v_aload_n C dX9_back_0 rfl rfl ?_
  refine v_iload_n C dX9_back_1 rfl rfl ?_
  refine v_ci (r_V C (m_noRange_ok l D B K _ r f0 A L I n hM hI0 hn40 i hi) dX9_back_2 hM.1 rfl g_ml_X9_101 g_im_yX9_noRange g_se_X9_yX9_noRange_yX9_noRange g_in_X9 g_cd_yX9_noRange (rn_le (by decide)) (by decide) rfl rfl hdn_yX9_noRange (Nat.le_of_ble_eq_true rfl) ⟨Nat.le_of_ble_eq_true rfl, Nat.le_of_ble_eq_true rfl⟩) (fun r_2 f_2 hp_2 => ?_)
  obtain ⟨rfl, hf9⟩ := hp_2
  have hf9 := hf9.symm
  subst hf9
  refine v_if_eq (tgt := 11) C dX9_back_5 (by decide) (fun _ => ?_) (fun c_5 => absurd c_5 (by decide))
  refine v_aload_n C dX9_back_11 rfl rfl ?_
  refine v_get C dX9_back_12 4 hM.1 rfl in_X9 (by decide) g_fl_X9_19 (fun _ h9 => h9) rfl ?_
  refine v_iload_n C dX9_back_15 rfl rfl ?_
  refine m_lld C hM dX9_back_16 4 i (by decide) (show _ < 40 by omega) rfl ?_
  refine v_rl hz ?_
  refine v_ldc2 C dX9_back_17 g_kl_X9_68 ?_
  refine v_lc_ne (tgt := 27) C dX9_back_20 dX9_back_21 (by decide) (fun c_20 => ?_) (fun c_20 => absurd c_20 (fun h9 => absurd ((sat_m1 _).mp h9) (by omega)))
  refine v_aload_n C dX9_back_27 rfl rfl ?_
  refine v_get C dX9_back_28 0 hM.1 rfl in_X9 (by decide) g_fl_X9_54 (fun _ h9 => h9) rfl ?_
  refine v_ri (hI0.trans (by subst hn; rfl)) ?_
  refine v_bipush (v := 40) C dX9_back_31 (by decide) ?_
  refine v_icmp_ne (tgt := 39) C dX9_back_33 (by decide) (fun c_33 => absurd rfl c_33) (fun c_33 => ?_)
  refine v_bipush (v := (-104)) C dX9_back_36 (by decide) ?_
  exact v_iret C hr hlk dX9_back_38 (Nat.le_refl _) (Nat.le_refl _) ⟨rfl, rfl⟩

set_option maxHeartbeats 4000000 in
set_option maxRecDepth 100000 in
theorem m_back_new (l : Launch) (D : va_G) (B : Nat) (K : Nat → ClassId) (f : St) (r : Nat → Nat) (f0 : St) (A : Nat → Nat → Int32) (L : Nat → Nat → Int64) (I : Nat → Int32) (n : Nat) (hM : MC K r f0 f A L I) (hI0 : I 0 = nI n) (hn40 : n ≤ 40) (sg : Nat → Sg) (l9 : List Ent) (i : Nat) (hi : i < n) (hz : L 4 i = sat (prodE sg l9)) (hrow : RowM A L sg l9 i n) (hb : prodE sg l9 < 9223372036854775808) (hn : n < 40) : Kc l D B K yX9_back cX9_back 3 ((some .int)) 4 0 0 [.ref (r 0), .int (nI i)] f (Qi_ D B (fun x f9 => x = nI n ∧ ∃ A2, TK (begA A n 4 1 (nI l9.length)) A2 n 0 i l9.length 1 ∧ RowM A2 L sg (l9.map flipE) n n ∧ MC K r f0 f9 A2 (up1 L 4 (vp_updL (L 4) n (sat (prodE sg (l9.map flipE))))) (up1 I 0 (nI (n + 1))))) := by
  refine v_met [(0, .ref (r 0)), (1, .int (nI i))] (by decide) (Nat.le_of_ble_eq_true rfl) rfl ?_
  intro p e s m args below meth c C hr hlk hin
  have hl8 := hrow.2.2.1
  refine v_aload_n C dX9_back_0 rfl rfl ?_
  refine v_iload_n C dX9_back_1 rfl rfl ?_
  refine v_ci (r_V C (m_noRange_ok l D B K _ r f0 A L I n hM hI0 hn40 i hi) dX9_back_2 hM.1 rfl g_ml_X9_101 g_im_yX9_noRange g_se_X9_yX9_noRange_yX9_noRange g_in_X9 g_cd_yX9_noRange (rn_le (by decide)) (by decide) rfl rfl hdn_yX9_noRange (Nat.le_of_ble_eq_true rfl) ⟨Nat.le_of_ble_eq_true rfl, Nat.le_of_ble_eq_true rfl⟩) (fun r_2 f_2 hp_2 => ?_)
  obtain ⟨rfl, hf9⟩ := hp_2
  have hf9 := hf9.symm
  subst hf9
  refine v_if_eq (tgt := 11) C dX9_back_5 (by decide) (fun _ => ?_) (fun c_5 => absurd c_5 (by decide))
  refine v_aload_n C dX9_back_11 rfl rfl ?_
  refine v_get C dX9_back_12 4 hM.1 rfl in_X9 (by decide) g_fl_X9_19 (fun _ h9 => h9) rfl ?_
  refine v_iload_n C dX9_back_15 rfl rfl ?_
  refine m_lld C hM dX9_back_16 4 i (by decide) (show _ < 40 by omega) rfl ?_
  refine v_rl hz ?_
  refine v_ldc2 C dX9_back_17 g_kl_X9_68 ?_
  refine v_lc_ne (tgt := 27) C dX9_back_20 dX9_back_21 (by decide) (fun c_20 => ?_) (fun c_20 => absurd c_20 (fun h9 => absurd ((sat_m1 _).mp h9) (by omega)))
  refine v_aload_n C dX9_back_27 rfl rfl ?_
  refine v_get C dX9_back_28 0 hM.1 rfl in_X9 (by decide) g_fl_X9_54 (fun _ h9 => h9) rfl ?_
  refine v_ri hI0 ?_
  refine v_bipush (v := 40) C dX9_back_31 (by decide) ?_
  refine v_icmp_ne (tgt := 39) C dX9_back_33 (by decide) (fun c_33 => ?_) (fun c_33 => absurd c_33 (fun h9 => by have h8 := (nI_eq (b := 40) (by omega) (by omega)).mp h9; omega))
  refine v_aload_n C dX9_back_39 rfl rfl ?_
  refine v_iconst (v := 4) C dX9_back_40 (by decide) ?_
  refine v_iconst (v := 1) C dX9_back_41 (by decide) ?_
  refine v_aload_n C dX9_back_42 rfl rfl ?_
  refine v_get C dX9_back_43 3 hM.1 rfl in_X9 (by decide) g_fl_X9_16 (fun _ h9 => h9) rfl ?_
  refine v_iload_n C dX9_back_46 rfl rfl ?_
  refine m_ild C hM dX9_back_47 3 i (by decide) (show _ < 40 by omega) rfl ?_
  refine v_ri hrow.1 ?_
  refine v_ci (r_V C (m_begin l D B K _ r f0 A L I n 4 1 (nI l9.length) hM hI0 (by omega)) dX9_back_48 hM.1 rfl g_ml_X9_105 g_im_yX9_begin g_se_X9_yX9_begin_yX9_begin g_in_X9 g_cd_yX9_begin (rn_le (by decide)) (by decide) rfl rfl hdn_yX9_begin (Nat.le_of_ble_eq_true rfl) ⟨Nat.le_of_ble_eq_true rfl, Nat.le_of_ble_eq_true rfl⟩) (fun r_48 f_48 hp_48 => ?_)
  obtain ⟨rfl, hM⟩ := hp_48
  refine v_istore_n C dX9_back_51 rfl (by decide) rfl ?_
  refine v_aload_n C dX9_back_52 rfl rfl ?_
  refine v_iload_n C dX9_back_53 rfl rfl ?_
  refine v_iconst (v := 0) C dX9_back_54 (by decide) ?_
  refine v_iload_n C dX9_back_55 rfl rfl ?_
  refine v_iconst (v := 1) C dX9_back_56 (by decide) ?_
  refine v_cv (r_V C (m_take l D B K _ r f0 (begA A n 4 1 (nI l9.length)) L (up1 I 0 (nI (n + 1))) n 0 i l9.length 1 (by rw [beg_w (by omega)]; exact hrow.1) (by omega) hi (by omega) hM) dX9_back_57 hM.1 rfl g_ml_X9_109 g_im_yX9_take g_se_X9_yX9_take_yX9_take g_in_X9 g_cd_yX9_take (rn_le (by decide)) (by decide) rfl rfl hdn_yX9_take (Nat.le_of_ble_eq_true rfl) ⟨Nat.le_of_ble_eq_true rfl, Nat.le_of_ble_eq_true rfl⟩) (fun f_57 hp_57 => ?_)
  obtain ⟨A2, hM, hT⟩ := hp_57
  have hP : RowP A2 L sg (l9.map flipE) (8 * n) n := (hrow.p.beg).take1 hT
  have hR : RowM A2 L sg (l9.map flipE) n n := hP.m (by rw [hT.w, beg_w0, List.length_map]) (by rw [List.length_map]; exact hrow.2.1) (by rw [List.length_map]; exact hrow.2.2.1)
  refine v_aload_n C dX9_back_60 rfl rfl ?_
  refine v_get C dX9_back_61 4 hM.1 rfl in_X9 (by decide) g_fl_X9_19 (fun _ h9 => h9) rfl ?_
  refine v_iload_n C dX9_back_64 rfl rfl ?_
  refine v_aload_n C dX9_back_65 rfl rfl ?_
  refine v_iload_n C dX9_back_66 rfl rfl ?_
  refine v_cl (r_V C (m_sizeOf l D B K _ r f0 A2 L (up1 I 0 (nI (n + 1))) sg (l9.map flipE) n n hM hR (by omega) (by omega)) dX9_back_67 hM.1 rfl g_ml_X9_113 g_im_yX9_sizeOf g_se_X9_yX9_sizeOf_yX9_sizeOf g_in_X9 g_cd_yX9_sizeOf (rn_le (by decide)) (by decide) rfl rfl hdn_yX9_sizeOf (Nat.le_of_ble_eq_true rfl) ⟨Nat.le_of_ble_eq_true rfl, Nat.le_of_ble_eq_true rfl⟩) (fun r_67 f_67 hp_67 => ?_)
  obtain ⟨rfl, hf9⟩ := hp_67
  have hf9 := hf9.symm
  subst hf9
  refine m_lst C hM dX9_back_70 4 n (by decide) (show _ < 40 by omega) rfl (fun f hM => ?_)
  refine v_iload_n C dX9_back_71 rfl rfl ?_
  exact v_iret C hr hlk dX9_back_72 (Nat.le_refl _) (Nat.le_refl _) ⟨rfl, A2, hT, hR, hM⟩

set_option maxHeartbeats 4000000 in
set_option maxRecDepth 100000 in
theorem m_pair_bad0 (l : Launch) (D : va_G) (B : Nat) (K : Nat → ClassId) (f : St) (r : Nat → Nat) (f0 : St) (A : Nat → Nat → Int32) (L : Nat → Nat → Int64) (I : Nat → Int32) (n : Nat) (hM : MC K r f0 f A L I) (hI0 : I 0 = nI n) (hn40 : n ≤ 40) (x : Int32) (hx : x < 0 ∨ nI n ≤ x) (x2 : Int32) : Kc l D B K yX9_pair cX9_pair 4 ((some .int)) 4 0 0 [.ref (r 0), .int x, .int x2] f (Qi_ D B (fun x f9 => x = -101 ∧ f9 = f)) := by
  refine v_met [(0, .ref (r 0)), (1, .int x), (2, .int x2)] (by decide) (Nat.le_of_ble_eq_true rfl) rfl ?_
  intro p e s m args below meth c C hr hlk hin
  refine v_aload_n C dX9_pair_0 rfl rfl ?_
  refine v_iload_n C dX9_pair_1 rfl rfl ?_
  refine v_ci (r_V C (m_noRange_bad l D B K _ r f0 A L I n hM hI0 hn40 x hx) dX9_pair_2 hM.1 rfl g_ml_X9_101 g_im_yX9_noRange g_se_X9_yX9_noRange_yX9_noRange g_in_X9 g_cd_yX9_noRange (rn_le (by decide)) (by decide) rfl rfl hdn_yX9_noRange (Nat.le_of_ble_eq_true rfl) ⟨Nat.le_of_ble_eq_true rfl, Nat.le_of_ble_eq_true rfl⟩) (fun r_2 f_2 hp_2 => ?_)
  obtain ⟨rfl, hf9⟩ := hp_2
  have hf9 := hf9.symm
  subst hf9
  refine v_if_ne (tgt := 16) C dX9_pair_5 (by decide) (fun _ => ?_) (fun c_5 => absurd c_5 (by decide))
  refine v_bipush (v := (-101)) C dX9_pair_16 (by decide) ?_
  exact v_iret C hr hlk dX9_pair_18 (Nat.le_refl _) (Nat.le_refl _) ⟨rfl, rfl⟩

set_option maxHeartbeats 4000000 in
set_option maxRecDepth 100000 in
theorem m_pair_bad1 (l : Launch) (D : va_G) (B : Nat) (K : Nat → ClassId) (f : St) (r : Nat → Nat) (f0 : St) (A : Nat → Nat → Int32) (L : Nat → Nat → Int64) (I : Nat → Int32) (n : Nat) (hM : MC K r f0 f A L I) (hI0 : I 0 = nI n) (hn40 : n ≤ 40) (i : Nat) (hi : i < n) (x2 : Int32) (hx2 : x2 < 0 ∨ nI n ≤ x2) : Kc l D B K yX9_pair cX9_pair 4 ((some .int)) 4 0 0 [.ref (r 0), .int (nI i), .int x2] f (Qi_ D B (fun x f9 => x = -101 ∧ f9 = f)) := by
  refine v_met [(0, .ref (r 0)), (1, .int (nI i)), (2, .int x2)] (by decide) (Nat.le_of_ble_eq_true rfl) rfl ?_
  intro p e s m args below meth c C hr hlk hin
  refine v_aload_n C dX9_pair_0 rfl rfl ?_
  refine v_iload_n C dX9_pair_1 rfl rfl ?_
  refine v_ci (r_V C (m_noRange_ok l D B K _ r f0 A L I n hM hI0 hn40 i hi) dX9_pair_2 hM.1 rfl g_ml_X9_101 g_im_yX9_noRange g_se_X9_yX9_noRange_yX9_noRange g_in_X9 g_cd_yX9_noRange (rn_le (by decide)) (by decide) rfl rfl hdn_yX9_noRange (Nat.le_of_ble_eq_true rfl) ⟨Nat.le_of_ble_eq_true rfl, Nat.le_of_ble_eq_true rfl⟩) (fun r_2 f_2 hp_2 => ?_)
  obtain ⟨rfl, hf9⟩ := hp_2
  have hf9 := hf9.symm
  subst hf9
  refine v_if_ne (tgt := 16) C dX9_pair_5 (by decide) (fun c_5 => absurd c_5 (by decide)) (fun _ => ?_)
  refine v_aload_n C dX9_pair_8 rfl rfl ?_
  refine v_iload_n C dX9_pair_9 rfl rfl ?_
  refine v_ci (r_V C (m_noRange_bad l D B K _ r f0 A L I n hM hI0 hn40 x2 hx2) dX9_pair_10 hM.1 rfl g_ml_X9_101 g_im_yX9_noRange g_se_X9_yX9_noRange_yX9_noRange g_in_X9 g_cd_yX9_noRange (rn_le (by decide)) (by decide) rfl rfl hdn_yX9_noRange (Nat.le_of_ble_eq_true rfl) ⟨Nat.le_of_ble_eq_true rfl, Nat.le_of_ble_eq_true rfl⟩) (fun r_10 f_10 hp_10 => ?_)
  obtain ⟨rfl, hf9⟩ := hp_10
  have hf9 := hf9.symm
  subst hf9
  refine v_if_eq (tgt := 19) C dX9_pair_13 (by decide) (fun c_13 => absurd c_13 (by decide)) (fun _ => ?_)
  refine v_bipush (v := (-101)) C dX9_pair_16 (by decide) ?_
  exact v_iret C hr hlk dX9_pair_18 (Nat.le_refl _) (Nat.le_refl _) ⟨rfl, rfl⟩

set_option maxHeartbeats 4000000 in
set_option maxRecDepth 100000 in
theorem m_pair_state (l : Launch) (D : va_G) (B : Nat) (K : Nat → ClassId) (f : St) (r : Nat → Nat) (f0 : St) (A : Nat → Nat → Int32) (L : Nat → Nat → Int64) (I : Nat → Int32) (n : Nat) (hM : MC K r f0 f A L I) (hI0 : I 0 = nI n) (hn40 : n ≤ 40) (sg : Nat → Sg) (l1 : List Ent) (i : Nat) (hi : i < n) (hr1 : RowM A L sg l1 i n) (l2 : List Ent) (j : Nat) (hj : j < n) (hr2 : RowM A L sg l2 j n) (hw : 8 < l1.length + l2.length) : Kc l D B K yX9_pair cX9_pair 4 ((some .int)) 4 0 0 [.ref (r 0), .int (nI i), .int (nI j)] f (Qi_ D B (fun x f9 => x = -103 ∧ f9 = f)) := by
  refine v_met [(0, .ref (r 0)), (1, .int (nI i)), (2, .int (nI j))] (by decide) (Nat.le_of_ble_eq_true rfl) rfl ?_
  intro p e s m args below meth c C hr hlk hin
  have hl1 := hr1.2.2.1
  have hl2 := hr2.2.2.1
  refine v_aload_n C dX9_pair_0 rfl rfl ?_
  refine v_iload_n C dX9_pair_1 rfl rfl ?_
  refine v_ci (r_V C (m_noRange_ok l D B K _ r f0 A L I n hM hI0 hn40 i hi) dX9_pair_2 hM.1 rfl g_ml_X9_101 g_im_yX9_noRange g_se_X9_yX9_noRange_yX9_noRange g_in_X9 g_cd_yX9_noRange (rn_le (by decide)) (by decide) rfl rfl hdn_yX9_noRange (Nat.le_of_ble_eq_true rfl) ⟨Nat.le_of_ble_eq_true rfl, Nat.le_of_ble_eq_true rfl⟩) (fun r_2 f_2 hp_2 => ?_)
  obtain ⟨rfl, hf9⟩ := hp_2
  have hf9 := hf9.symm
  subst hf9
  refine v_if_ne (tgt := 16) C dX9_pair_5 (by decide) (fun c_5 => absurd c_5 (by decide)) (fun _ => ?_)
  refine v_aload_n C dX9_pair_8 rfl rfl ?_
  refine v_iload_n C dX9_pair_9 rfl rfl ?_
  refine v_ci (r_V C (m_noRange_ok l D B K _ r f0 A L I n hM hI0 hn40 j hj) dX9_pair_10 hM.1 rfl g_ml_X9_101 g_im_yX9_noRange g_se_X9_yX9_noRange_yX9_noRange g_in_X9 g_cd_yX9_noRange (rn_le (by decide)) (by decide) rfl rfl hdn_yX9_noRange (Nat.le_of_ble_eq_true rfl) ⟨Nat.le_of_ble_eq_true rfl, Nat.le_of_ble_eq_true rfl⟩) (fun r_10 f_10 hp_10 => ?_)
  obtain ⟨rfl, hf9⟩ := hp_10
  have hf9 := hf9.symm
  subst hf9
  refine v_if_eq (tgt := 19) C dX9_pair_13 (by decide) (fun _ => ?_) (fun c_13 => absurd c_13 (by decide))
  refine v_aload_n C dX9_pair_19 rfl rfl ?_
  refine v_get C dX9_pair_20 3 hM.1 rfl in_X9 (by decide) g_fl_X9_16 (fun _ h9 => h9) rfl ?_
  refine v_iload_n C dX9_pair_23 rfl rfl ?_
  refine m_ild C hM dX9_pair_24 3 i (by decide) (show _ < 40 by omega) rfl ?_
  refine v_ri hr1.1 ?_
  refine v_aload_n C dX9_pair_25 rfl rfl ?_
  refine v_get C dX9_pair_26 3 hM.1 rfl in_X9 (by decide) g_fl_X9_16 (fun _ h9 => h9) rfl ?_
  refine v_iload_n C dX9_pair_29 rfl rfl ?_
  refine m_ild C hM dX9_pair_30 3 j (by decide) (show _ < 40 by omega) rfl ?_
  refine v_ri hr2.1 ?_
  refine v_iadd C dX9_pair_31 ?_
  refine v_ri (nI_add _ _) ?_
  refine v_bipush (v := 8) C dX9_pair_32 (by decide) ?_
  refine v_icmp_le (tgt := 40) C dX9_pair_34 (by decide) (fun c_34 => absurd c_34 (nI_ge (b := l1.length + l2.length) (a := 8) hw (by omega))) (fun c_34 => ?_)
  refine v_bipush (v := (-103)) C dX9_pair_37 (by decide) ?_
  exact v_iret C hr hlk dX9_pair_39 (Nat.le_refl _) (Nat.le_refl _) ⟨rfl, rfl⟩

set_option maxHeartbeats 4000000 in
set_option maxRecDepth 100000 in
theorem m_pair_full (l : Launch) (D : va_G) (B : Nat) (K : Nat → ClassId) (f : St) (r : Nat → Nat) (f0 : St) (A : Nat → Nat → Int32) (L : Nat → Nat → Int64) (I : Nat → Int32) (n : Nat) (hM : MC K r f0 f A L I) (hI0 : I 0 = nI n) (hn40 : n ≤ 40) (sg : Nat → Sg) (l1 : List Ent) (i : Nat) (hi : i < n) (hr1 : RowM A L sg l1 i n) (l2 : List Ent) (j : Nat) (hj : j < n) (hr2 : RowM A L sg l2 j n) (hw : l1.length + l2.length ≤ 8) (hn : n = 40) : Kc l D B K yX9_pair cX9_pair 4 ((some .int)) 4 0 0 [.ref (r 0), .int (nI i), .int (nI j)] f (Qi_ D B (fun x f9 => x = -104 ∧ f9 = f)) := by
  refine v_met [(0, .ref (r 0)), (1, .int (nI i)), (2, .int (nI j))] (by decide) (Nat.le_of_ble_eq_true rfl) rfl ?_
  intro p e s m args below meth c C hr hlk hin
  have hl1 := hr1.2.2.1
  have hl2 := hr2.2.2.1
  refine v_aload_n C dX9_pair_0 rfl rfl ?_
  refine v_iload_n C dX9_pair_1 rfl rfl ?_
  refine v_ci (r_V C (m_noRange_ok l D B K _ r f0 A L I n hM hI0 hn40 i hi) dX9_pair_2 hM.1 rfl g_ml_X9_101 g_im_yX9_noRange g_se_X9_yX9_noRange_yX9_noRange g_in_X9 g_cd_yX9_noRange (rn_le (by decide)) (by decide) rfl rfl hdn_yX9_noRange (Nat.le_of_ble_eq_true rfl) ⟨Nat.le_of_ble_eq_true rfl, Nat.le_of_ble_eq_true rfl⟩) (fun r_2 f_2 hp_2 => ?_)
  obtain ⟨rfl, hf9⟩ := hp_2
  have hf9 := hf9.symm
  subst hf9
  refine v_if_ne (tgt := 16) C dX9_pair_5 (by decide) (fun c_5 => absurd c_5 (by decide)) (fun _ => ?_)
  refine v_aload_n C dX9_pair_8 rfl rfl ?_
  refine v_iload_n C dX9_pair_9 rfl rfl ?_
  refine v_ci (r_V C (m_noRange_ok l D B K _ r f0 A L I n hM hI0 hn40 j hj) dX9_pair_10 hM.1 rfl g_ml_X9_101 g_im_yX9_noRange g_se_X9_yX9_noRange_yX9_noRange g_in_X9 g_cd_yX9_noRange (rn_le (by decide)) (by decide) rfl rfl hdn_yX9_noRange (Nat.le_of_ble_eq_true rfl) ⟨Nat.le_of_ble_eq_true rfl, Nat.le_of_ble_eq_true rfl⟩) (fun r_10 f_10 hp_10 => ?_)
  obtain ⟨rfl, hf9⟩ := hp_10
  have hf9 := hf9.symm
  subst hf9
  refine v_if_eq (tgt := 19) C dX9_pair_13 (by decide) (fun _ => ?_) (fun c_13 => absurd c_13 (by decide))
  refine v_aload_n C dX9_pair_19 rfl rfl ?_
  refine v_get C dX9_pair_20 3 hM.1 rfl in_X9 (by decide) g_fl_X9_16 (fun _ h9 => h9) rfl ?_
  refine v_iload_n C dX9_pair_23 rfl rfl ?_
  refine m_ild C hM dX9_pair_24 3 i (by decide) (show _ < 40 by omega) rfl ?_
  refine v_ri hr1.1 ?_
  refine v_aload_n C dX9_pair_25 rfl rfl ?_
  refine v_get C dX9_pair_26 3 hM.1 rfl in_X9 (by decide) g_fl_X9_16 (fun _ h9 => h9) rfl ?_
  refine v_iload_n C dX9_pair_29 rfl rfl ?_
  refine m_ild C hM dX9_pair_30 3 j (by decide) (show _ < 40 by omega) rfl ?_
  refine v_ri hr2.1 ?_
  refine v_iadd C dX9_pair_31 ?_
  refine v_ri (nI_add _ _) ?_
  refine v_bipush (v := 8) C dX9_pair_32 (by decide) ?_
  refine v_icmp_le (tgt := 40) C dX9_pair_34 (by decide) (fun c_34 => ?_) (fun c_34 => absurd (nI_le (b := 8) hw (by omega)) c_34)
  refine v_aload_n C dX9_pair_40 rfl rfl ?_
  refine v_get C dX9_pair_41 0 hM.1 rfl in_X9 (by decide) g_fl_X9_54 (fun _ h9 => h9) rfl ?_
  refine v_ri (hI0.trans (by subst hn; rfl)) ?_
  refine v_bipush (v := 40) C dX9_pair_44 (by decide) ?_
  refine v_icmp_ne (tgt := 52) C dX9_pair_46 (by decide) (fun c_46 => absurd rfl c_46) (fun c_46 => ?_)
  refine v_bipush (v := (-104)) C dX9_pair_49 (by decide) ?_
  exact v_iret C hr hlk dX9_pair_51 (Nat.le_refl _) (Nat.le_refl _) ⟨rfl, rfl⟩

set_option maxHeartbeats 4000000 in
set_option maxRecDepth 100000 in
theorem m_pair_new (l : Launch) (D : va_G) (B : Nat) (K : Nat → ClassId) (f : St) (r : Nat → Nat) (f0 : St) (A : Nat → Nat → Int32) (L : Nat → Nat → Int64) (I : Nat → Int32) (n : Nat) (hM : MC K r f0 f A L I) (hI0 : I 0 = nI n) (hn40 : n ≤ 40) (sg : Nat → Sg) (l1 : List Ent) (i : Nat) (hi : i < n) (hr1 : RowM A L sg l1 i n) (l2 : List Ent) (j : Nat) (hj : j < n) (hr2 : RowM A L sg l2 j n) (hw : l1.length + l2.length ≤ 8) (hn : n < 40) : Kc l D B K yX9_pair cX9_pair 4 ((some .int)) 4 0 0 [.ref (r 0), .int (nI i), .int (nI j)] f (Qi_ D B (fun x f9 => x = nI n ∧ ∃ A2 A3, TK (begA A n 5 2 (nI (l1.length + l2.length))) A2 n 0 i l1.length 0 ∧ TK A2 A3 n l1.length j l2.length 0 ∧ RowM A3 L sg ((l1 ++ l2).map deepE) n n ∧ MC K r f0 f9 A3 (up1 L 4 (vp_updL (L 4) n (sat (prodE sg ((l1 ++ l2).map deepE))))) (up1 I 0 (nI (n + 1))))) := by
  refine v_met [(0, .ref (r 0)), (1, .int (nI i)), (2, .int (nI j))] (by decide) (Nat.le_of_ble_eq_true rfl) rfl ?_
  intro p e s m args below meth c C hr hlk hin
  have hl1 := hr1.2.2.1
  have hl2 := hr2.2.2.1
  refine v_aload_n C dX9_pair_0 rfl rfl ?_
  refine v_iload_n C dX9_pair_1 rfl rfl ?_
  refine v_ci (r_V C (m_noRange_ok l D B K _ r f0 A L I n hM hI0 hn40 i hi) dX9_pair_2 hM.1 rfl g_ml_X9_101 g_im_yX9_noRange g_se_X9_yX9_noRange_yX9_noRange g_in_X9 g_cd_yX9_noRange (rn_le (by decide)) (by decide) rfl rfl hdn_yX9_noRange (Nat.le_of_ble_eq_true rfl) ⟨Nat.le_of_ble_eq_true rfl, Nat.le_of_ble_eq_true rfl⟩) (fun r_2 f_2 hp_2 => ?_)
  obtain ⟨rfl, hf9⟩ := hp_2
  have hf9 := hf9.symm
  subst hf9
  refine v_if_ne (tgt := 16) C dX9_pair_5 (by decide) (fun c_5 => absurd c_5 (by decide)) (fun _ => ?_)
  refine v_aload_n C dX9_pair_8 rfl rfl ?_
  refine v_iload_n C dX9_pair_9 rfl rfl ?_
  refine v_ci (r_V C (m_noRange_ok l D B K _ r f0 A L I n hM hI0 hn40 j hj) dX9_pair_10 hM.1 rfl g_ml_X9_101 g_im_yX9_noRange g_se_X9_yX9_noRange_yX9_noRange g_in_X9 g_cd_yX9_noRange (rn_le (by decide)) (by decide) rfl rfl hdn_yX9_noRange (Nat.le_of_ble_eq_true rfl) ⟨Nat.le_of_ble_eq_true rfl, Nat.le_of_ble_eq_true rfl⟩) (fun r_10 f_10 hp_10 => ?_)
  obtain ⟨rfl, hf9⟩ := hp_10
  have hf9 := hf9.symm
  subst hf9
  refine v_if_eq (tgt := 19) C dX9_pair_13 (by decide) (fun _ => ?_) (fun c_13 => absurd c_13 (by decide))
  refine v_aload_n C dX9_pair_19 rfl rfl ?_
  refine v_get C dX9_pair_20 3 hM.1 rfl in_X9 (by decide) g_fl_X9_16 (fun _ h9 => h9) rfl ?_
  refine v_iload_n C dX9_pair_23 rfl rfl ?_
  refine m_ild C hM dX9_pair_24 3 i (by decide) (show _ < 40 by omega) rfl ?_
  refine v_ri hr1.1 ?_
  refine v_aload_n C dX9_pair_25 rfl rfl ?_
  refine v_get C dX9_pair_26 3 hM.1 rfl in_X9 (by decide) g_fl_X9_16 (fun _ h9 => h9) rfl ?_
  refine v_iload_n C dX9_pair_29 rfl rfl ?_
  refine m_ild C hM dX9_pair_30 3 j (by decide) (show _ < 40 by omega) rfl ?_
  refine v_ri hr2.1 ?_
  refine v_iadd C dX9_pair_31 ?_
  refine v_ri (nI_add _ _) ?_
  refine v_bipush (v := 8) C dX9_pair_32 (by decide) ?_
  refine v_icmp_le (tgt := 40) C dX9_pair_34 (by decide) (fun c_34 => ?_) (fun c_34 => absurd (nI_le (b := 8) hw (by omega)) c_34)
  refine v_aload_n C dX9_pair_40 rfl rfl ?_
  refine v_get C dX9_pair_41 0 hM.1 rfl in_X9 (by decide) g_fl_X9_54 (fun _ h9 => h9) rfl ?_
  refine v_ri hI0 ?_
  refine v_bipush (v := 40) C dX9_pair_44 (by decide) ?_
  refine v_icmp_ne (tgt := 52) C dX9_pair_46 (by decide) (fun c_46 => ?_) (fun c_46 => absurd c_46 (fun h9 => by have h8 := (nI_eq (b := 40) (by omega) (by omega)).mp h9; omega))
  refine v_aload_n C dX9_pair_52 rfl rfl ?_
  refine v_iconst (v := 5) C dX9_pair_53 (by decide) ?_
  refine v_iconst (v := 2) C dX9_pair_54 (by decide) ?_
  refine v_aload_n C dX9_pair_55 rfl rfl ?_
  refine v_get C dX9_pair_56 3 hM.1 rfl in_X9 (by decide) g_fl_X9_16 (fun _ h9 => h9) rfl ?_
  refine v_iload_n C dX9_pair_59 rfl rfl ?_
  refine m_ild C hM dX9_pair_60 3 i (by decide) (show _ < 40 by omega) rfl ?_
  refine v_ri hr1.1 ?_
  refine v_aload_n C dX9_pair_61 rfl rfl ?_
  refine v_get C dX9_pair_62 3 hM.1 rfl in_X9 (by decide) g_fl_X9_16 (fun _ h9 => h9) rfl ?_
  refine v_iload_n C dX9_pair_65 rfl rfl ?_
  refine m_ild C hM dX9_pair_66 3 j (by decide) (show _ < 40 by omega) rfl ?_
  refine v_ri hr2.1 ?_
  refine v_iadd C dX9_pair_67 ?_
  refine v_ri (nI_add _ _) ?_
  refine v_ci (r_V C (m_begin l D B K _ r f0 A L I n 5 2 (nI (l1.length + l2.length)) hM hI0 (by omega)) dX9_pair_68 hM.1 rfl g_ml_X9_105 g_im_yX9_begin g_se_X9_yX9_begin_yX9_begin g_in_X9 g_cd_yX9_begin (rn_le (by decide)) (by decide) rfl rfl hdn_yX9_begin (Nat.le_of_ble_eq_true rfl) ⟨Nat.le_of_ble_eq_true rfl, Nat.le_of_ble_eq_true rfl⟩) (fun r_68 f_68 hp_68 => ?_)
  obtain ⟨rfl, hM⟩ := hp_68
  refine v_istore_n C dX9_pair_71 rfl (by decide) rfl ?_
  refine v_aload_n C dX9_pair_72 rfl rfl ?_
  refine v_iload_n C dX9_pair_73 rfl rfl ?_
  refine v_iconst (v := 0) C dX9_pair_74 (by decide) ?_
  refine v_iload_n C dX9_pair_75 rfl rfl ?_
  refine v_iconst (v := 0) C dX9_pair_76 (by decide) ?_
  refine v_cv (r_V C (m_take l D B K _ r f0 (begA A n 5 2 (nI (l1.length + l2.length))) L (up1 I 0 (nI (n + 1))) n 0 i l1.length 0 (by rw [beg_w (by omega)]; exact hr1.1) (by omega) hi (by omega) hM) dX9_pair_77 hM.1 rfl g_ml_X9_109 g_im_yX9_take g_se_X9_yX9_take_yX9_take g_in_X9 g_cd_yX9_take (rn_le (by decide)) (by decide) rfl rfl hdn_yX9_take (Nat.le_of_ble_eq_true rfl) ⟨Nat.le_of_ble_eq_true rfl, Nat.le_of_ble_eq_true rfl⟩) (fun f_77 hp_77 => ?_)
  obtain ⟨A2, hM, hT1⟩ := hp_77
  refine v_aload_n C dX9_pair_80 rfl rfl ?_
  refine v_iload_n C dX9_pair_81 rfl rfl ?_
  refine v_aload_n C dX9_pair_82 rfl rfl ?_
  refine v_get C dX9_pair_83 3 hM.1 rfl in_X9 (by decide) g_fl_X9_16 (fun _ h9 => h9) rfl ?_
  refine v_iload_n C dX9_pair_86 rfl rfl ?_
  refine m_ild C hM dX9_pair_87 3 i (by decide) (show _ < 40 by omega) rfl ?_
  refine v_ri (show _ = nI l1.length by rw [hT1.w, beg_w (by omega)]; exact hr1.1) ?_
  refine v_iload_n C dX9_pair_88 rfl rfl ?_
  refine v_iconst (v := 0) C dX9_pair_89 (by decide) ?_
  refine v_cv (r_V C (m_take l D B K _ r f0 A2 L (up1 I 0 (nI (n + 1))) n l1.length j l2.length 0 (by rw [hT1.w, beg_w (by omega)]; exact hr2.1) (by omega) hj (by omega) hM) dX9_pair_90 hM.1 rfl g_ml_X9_109 g_im_yX9_take g_se_X9_yX9_take_yX9_take g_in_X9 g_cd_yX9_take (rn_le (by decide)) (by decide) rfl rfl hdn_yX9_take (Nat.le_of_ble_eq_true rfl) ⟨Nat.le_of_ble_eq_true rfl, Nat.le_of_ble_eq_true rfl⟩) (fun f_90 hp_90 => ?_)
  obtain ⟨A3, hM, hT2⟩ := hp_90
  have hP1 : RowP A3 L sg (l1.map deepE) (8 * n) n := ((hr1.p.beg).take0 hT1).keep hT2 (by rw [List.length_map]; omega)
  have hP2 : RowP A3 L sg (l2.map deepE) (8 * n + (l1.length)) n := ((hr2.p.beg).keep hT1 (by omega)).take0 hT2
  have hP : RowP A3 L sg ((l1 ++ l2).map deepE) (8 * n) n := by rw [List.map_append]; exact hP1.app (by rw [List.length_map]; exact hP2)
  have hR : RowM A3 L sg ((l1 ++ l2).map deepE) n n := hP.m (by rw [hT2.w, hT1.w, beg_w0]; simp [Nat.add_assoc]) (by simp; have := hr1.2.1; omega) (by simp; omega)
  refine v_aload_n C dX9_pair_93 rfl rfl ?_
  refine v_get C dX9_pair_94 4 hM.1 rfl in_X9 (by decide) g_fl_X9_19 (fun _ h9 => h9) rfl ?_
  refine v_iload_n C dX9_pair_97 rfl rfl ?_
  refine v_aload_n C dX9_pair_98 rfl rfl ?_
  refine v_iload_n C dX9_pair_99 rfl rfl ?_
  refine v_cl (r_V C (m_sizeOf l D B K _ r f0 A3 L (up1 I 0 (nI (n + 1))) sg ((l1 ++ l2).map deepE) n n hM hR (by omega) (by omega)) dX9_pair_100 hM.1 rfl g_ml_X9_113 g_im_yX9_sizeOf g_se_X9_yX9_sizeOf_yX9_sizeOf g_in_X9 g_cd_yX9_sizeOf (rn_le (by decide)) (by decide) rfl rfl hdn_yX9_sizeOf (Nat.le_of_ble_eq_true rfl) ⟨Nat.le_of_ble_eq_true rfl, Nat.le_of_ble_eq_true rfl⟩) (fun r_100 f_100 hp_100 => ?_)
  obtain ⟨rfl, hf9⟩ := hp_100
  have hf9 := hf9.symm
  subst hf9
  refine m_lst C hM dX9_pair_103 4 n (by decide) (show _ < 40 by omega) rfl (fun f hM => ?_)
  refine v_iload_n C dX9_pair_104 rfl rfl ?_
  exact v_iret C hr hlk dX9_pair_105 (Nat.le_refl _) (Nat.le_refl _) ⟨rfl, A2, A3, hT1, hT2, hR, hM⟩

set_option maxHeartbeats 4000000 in
set_option maxRecDepth 100000 in
theorem m_triple_bad0 (l : Launch) (D : va_G) (B : Nat) (K : Nat → ClassId) (f : St) (r : Nat → Nat) (f0 : St) (A : Nat → Nat → Int32) (L : Nat → Nat → Int64) (I : Nat → Int32) (n : Nat) (hM : MC K r f0 f A L I) (hI0 : I 0 = nI n) (hn40 : n ≤ 40) (x : Int32) (hx : x < 0 ∨ nI n ≤ x) (x2 : Int32) (x3 : Int32) : Kc l D B K yX9_triple cX9_triple 5 ((some .int)) 4 0 0 [.ref (r 0), .int x, .int x2, .int x3] f (Qi_ D B (fun x f9 => x = -101 ∧ f9 = f)) := by
  refine v_met [(0, .ref (r 0)), (1, .int x), (2, .int x2), (3, .int x3)] (by decide) (Nat.le_of_ble_eq_true rfl) rfl ?_
  intro p e s m args below meth c C hr hlk hin
  refine v_aload_n C dX9_triple_0 rfl rfl ?_
  refine v_iload_n C dX9_triple_1 rfl rfl ?_
  refine v_ci (r_V C (m_noRange_bad l D B K _ r f0 A L I n hM hI0 hn40 x hx) dX9_triple_2 hM.1 rfl g_ml_X9_101 g_im_yX9_noRange g_se_X9_yX9_noRange_yX9_noRange g_in_X9 g_cd_yX9_noRange (rn_le (by decide)) (by decide) rfl rfl hdn_yX9_noRange (Nat.le_of_ble_eq_true rfl) ⟨Nat.le_of_ble_eq_true rfl, Nat.le_of_ble_eq_true rfl⟩) (fun r_2 f_2 hp_2 => ?_)
  obtain ⟨rfl, hf9⟩ := hp_2
  have hf9 := hf9.symm
  subst hf9
  refine v_if_ne (tgt := 24) C dX9_triple_5 (by decide) (fun _ => ?_) (fun c_5 => absurd c_5 (by decide))
  refine v_bipush (v := (-101)) C dX9_triple_24 (by decide) ?_
  exact v_iret C hr hlk dX9_triple_26 (Nat.le_refl _) (Nat.le_refl _) ⟨rfl, rfl⟩

set_option maxHeartbeats 4000000 in
set_option maxRecDepth 100000 in
theorem m_triple_bad1 (l : Launch) (D : va_G) (B : Nat) (K : Nat → ClassId) (f : St) (r : Nat → Nat) (f0 : St) (A : Nat → Nat → Int32) (L : Nat → Nat → Int64) (I : Nat → Int32) (n : Nat) (hM : MC K r f0 f A L I) (hI0 : I 0 = nI n) (hn40 : n ≤ 40) (i : Nat) (hi : i < n) (x2 : Int32) (hx2 : x2 < 0 ∨ nI n ≤ x2) (x3 : Int32) : Kc l D B K yX9_triple cX9_triple 5 ((some .int)) 4 0 0 [.ref (r 0), .int (nI i), .int x2, .int x3] f (Qi_ D B (fun x f9 => x = -101 ∧ f9 = f)) := by
  refine v_met [(0, .ref (r 0)), (1, .int (nI i)), (2, .int x2), (3, .int x3)] (by decide) (Nat.le_of_ble_eq_true rfl) rfl ?_
  intro p e s m args below meth c C hr hlk hin
  refine v_aload_n C dX9_triple_0 rfl rfl ?_
  refine v_iload_n C dX9_triple_1 rfl rfl ?_
  refine v_ci (r_V C (m_noRange_ok l D B K _ r f0 A L I n hM hI0 hn40 i hi) dX9_triple_2 hM.1 rfl g_ml_X9_101 g_im_yX9_noRange g_se_X9_yX9_noRange_yX9_noRange g_in_X9 g_cd_yX9_noRange (rn_le (by decide)) (by decide) rfl rfl hdn_yX9_noRange (Nat.le_of_ble_eq_true rfl) ⟨Nat.le_of_ble_eq_true rfl, Nat.le_of_ble_eq_true rfl⟩) (fun r_2 f_2 hp_2 => ?_)
  obtain ⟨rfl, hf9⟩ := hp_2
  have hf9 := hf9.symm
  subst hf9
  refine v_if_ne (tgt := 24) C dX9_triple_5 (by decide) (fun c_5 => absurd c_5 (by decide)) (fun _ => ?_)
  refine v_aload_n C dX9_triple_8 rfl rfl ?_
  refine v_iload_n C dX9_triple_9 rfl rfl ?_
  refine v_ci (r_V C (m_noRange_bad l D B K _ r f0 A L I n hM hI0 hn40 x2 hx2) dX9_triple_10 hM.1 rfl g_ml_X9_101 g_im_yX9_noRange g_se_X9_yX9_noRange_yX9_noRange g_in_X9 g_cd_yX9_noRange (rn_le (by decide)) (by decide) rfl rfl hdn_yX9_noRange (Nat.le_of_ble_eq_true rfl) ⟨Nat.le_of_ble_eq_true rfl, Nat.le_of_ble_eq_true rfl⟩) (fun r_10 f_10 hp_10 => ?_)
  obtain ⟨rfl, hf9⟩ := hp_10
  have hf9 := hf9.symm
  subst hf9
  refine v_if_ne (tgt := 24) C dX9_triple_13 (by decide) (fun _ => ?_) (fun c_13 => absurd c_13 (by decide))
  refine v_bipush (v := (-101)) C dX9_triple_24 (by decide) ?_
  exact v_iret C hr hlk dX9_triple_26 (Nat.le_refl _) (Nat.le_refl _) ⟨rfl, rfl⟩

set_option maxHeartbeats 4000000 in
set_option maxRecDepth 100000 in
theorem m_triple_bad2 (l : Launch) (D : va_G) (B : Nat) (K : Nat → ClassId) (f : St) (r : Nat → Nat) (f0 : St) (A : Nat → Nat → Int32) (L : Nat → Nat → Int64) (I : Nat → Int32) (n : Nat) (hM : MC K r f0 f A L I) (hI0 : I 0 = nI n) (hn40 : n ≤ 40) (i : Nat) (hi : i < n) (j : Nat) (hj : j < n) (x3 : Int32) (hx3 : x3 < 0 ∨ nI n ≤ x3) : Kc l D B K yX9_triple cX9_triple 5 ((some .int)) 4 0 0 [.ref (r 0), .int (nI i), .int (nI j), .int x3] f (Qi_ D B (fun x f9 => x = -101 ∧ f9 = f)) := by
  refine v_met [(0, .ref (r 0)), (1, .int (nI i)), (2, .int (nI j)), (3, .int x3)] (by decide) (Nat.le_of_ble_eq_true rfl) rfl ?_
  intro p e s m args below meth c C hr hlk hin
  refine v_aload_n C dX9_triple_0 rfl rfl ?_
  refine v_iload_n C dX9_triple_1 rfl rfl ?_
  refine v_ci (r_V C (m_noRange_ok l D B K _ r f0 A L I n hM hI0 hn40 i hi) dX9_triple_2 hM.1 rfl g_ml_X9_101 g_im_yX9_noRange g_se_X9_yX9_noRange_yX9_noRange g_in_X9 g_cd_yX9_noRange (rn_le (by decide)) (by decide) rfl rfl hdn_yX9_noRange (Nat.le_of_ble_eq_true rfl) ⟨Nat.le_of_ble_eq_true rfl, Nat.le_of_ble_eq_true rfl⟩) (fun r_2 f_2 hp_2 => ?_)
  obtain ⟨rfl, hf9⟩ := hp_2
  have hf9 := hf9.symm
  subst hf9
  refine v_if_ne (tgt := 24) C dX9_triple_5 (by decide) (fun c_5 => absurd c_5 (by decide)) (fun _ => ?_)
  refine v_aload_n C dX9_triple_8 rfl rfl ?_
  refine v_iload_n C dX9_triple_9 rfl rfl ?_
  refine v_ci (r_V C (m_noRange_ok l D B K _ r f0 A L I n hM hI0 hn40 j hj) dX9_triple_10 hM.1 rfl g_ml_X9_101 g_im_yX9_noRange g_se_X9_yX9_noRange_yX9_noRange g_in_X9 g_cd_yX9_noRange (rn_le (by decide)) (by decide) rfl rfl hdn_yX9_noRange (Nat.le_of_ble_eq_true rfl) ⟨Nat.le_of_ble_eq_true rfl, Nat.le_of_ble_eq_true rfl⟩) (fun r_10 f_10 hp_10 => ?_)
  obtain ⟨rfl, hf9⟩ := hp_10
  have hf9 := hf9.symm
  subst hf9
  refine v_if_ne (tgt := 24) C dX9_triple_13 (by decide) (fun c_13 => absurd c_13 (by decide)) (fun _ => ?_)
  refine v_aload_n C dX9_triple_16 rfl rfl ?_
  refine v_iload_n C dX9_triple_17 rfl rfl ?_
  refine v_ci (r_V C (m_noRange_bad l D B K _ r f0 A L I n hM hI0 hn40 x3 hx3) dX9_triple_18 hM.1 rfl g_ml_X9_101 g_im_yX9_noRange g_se_X9_yX9_noRange_yX9_noRange g_in_X9 g_cd_yX9_noRange (rn_le (by decide)) (by decide) rfl rfl hdn_yX9_noRange (Nat.le_of_ble_eq_true rfl) ⟨Nat.le_of_ble_eq_true rfl, Nat.le_of_ble_eq_true rfl⟩) (fun r_18 f_18 hp_18 => ?_)
  obtain ⟨rfl, hf9⟩ := hp_18
  have hf9 := hf9.symm
  subst hf9
  refine v_if_eq (tgt := 27) C dX9_triple_21 (by decide) (fun c_21 => absurd c_21 (by decide)) (fun _ => ?_)
  refine v_bipush (v := (-101)) C dX9_triple_24 (by decide) ?_
  exact v_iret C hr hlk dX9_triple_26 (Nat.le_refl _) (Nat.le_refl _) ⟨rfl, rfl⟩

set_option maxHeartbeats 4000000 in
set_option maxRecDepth 100000 in
theorem m_triple_state (l : Launch) (D : va_G) (B : Nat) (K : Nat → ClassId) (f : St) (r : Nat → Nat) (f0 : St) (A : Nat → Nat → Int32) (L : Nat → Nat → Int64) (I : Nat → Int32) (n : Nat) (hM : MC K r f0 f A L I) (hI0 : I 0 = nI n) (hn40 : n ≤ 40) (sg : Nat → Sg) (l1 : List Ent) (i : Nat) (hi : i < n) (hr1 : RowM A L sg l1 i n) (l2 : List Ent) (j : Nat) (hj : j < n) (hr2 : RowM A L sg l2 j n) (l3 : List Ent) (k : Nat) (hk : k < n) (hr3 : RowM A L sg l3 k n) (hw : 8 < l1.length + l2.length + l3.length) : Kc l D B K yX9_triple cX9_triple 5 ((some .int)) 4 0 0 [.ref (r 0), .int (nI i), .int (nI j), .int (nI k)] f (Qi_ D B (fun x f9 => x = -103 ∧ f9 = f)) := by
  refine v_met [(0, .ref (r 0)), (1, .int (nI i)), (2, .int (nI j)), (3, .int (nI k))] (by decide) (Nat.le_of_ble_eq_true rfl) rfl ?_
  intro p e s m args below meth c C hr hlk hin
  have hl1 := hr1.2.2.1
  have hl2 := hr2.2.2.1
  have hl3 := hr3.2.2.1
  refine v_aload_n C dX9_triple_0 rfl rfl ?_
  refine v_iload_n C dX9_triple_1 rfl rfl ?_
  refine v_ci (r_V C (m_noRange_ok l D B K _ r f0 A L I n hM hI0 hn40 i hi) dX9_triple_2 hM.1 rfl g_ml_X9_101 g_im_yX9_noRange g_se_X9_yX9_noRange_yX9_noRange g_in_X9 g_cd_yX9_noRange (rn_le (by decide)) (by decide) rfl rfl hdn_yX9_noRange (Nat.le_of_ble_eq_true rfl) ⟨Nat.le_of_ble_eq_true rfl, Nat.le_of_ble_eq_true rfl⟩) (fun r_2 f_2 hp_2 => ?_)
  obtain ⟨rfl, hf9⟩ := hp_2
  have hf9 := hf9.symm
  subst hf9
  refine v_if_ne (tgt := 24) C dX9_triple_5 (by decide) (fun c_5 => absurd c_5 (by decide)) (fun _ => ?_)
  refine v_aload_n C dX9_triple_8 rfl rfl ?_
  refine v_iload_n C dX9_triple_9 rfl rfl ?_
  refine v_ci (r_V C (m_noRange_ok l D B K _ r f0 A L I n hM hI0 hn40 j hj) dX9_triple_10 hM.1 rfl g_ml_X9_101 g_im_yX9_noRange g_se_X9_yX9_noRange_yX9_noRange g_in_X9 g_cd_yX9_noRange (rn_le (by decide)) (by decide) rfl rfl hdn_yX9_noRange (Nat.le_of_ble_eq_true rfl) ⟨Nat.le_of_ble_eq_true rfl, Nat.le_of_ble_eq_true rfl⟩) (fun r_10 f_10 hp_10 => ?_)
  obtain ⟨rfl, hf9⟩ := hp_10
  have hf9 := hf9.symm
  subst hf9
  refine v_if_ne (tgt := 24) C dX9_triple_13 (by decide) (fun c_13 => absurd c_13 (by decide)) (fun _ => ?_)
  refine v_aload_n C dX9_triple_16 rfl rfl ?_
  refine v_iload_n C dX9_triple_17 rfl rfl ?_
  refine v_ci (r_V C (m_noRange_ok l D B K _ r f0 A L I n hM hI0 hn40 k hk) dX9_triple_18 hM.1 rfl g_ml_X9_101 g_im_yX9_noRange g_se_X9_yX9_noRange_yX9_noRange g_in_X9 g_cd_yX9_noRange (rn_le (by decide)) (by decide) rfl rfl hdn_yX9_noRange (Nat.le_of_ble_eq_true rfl) ⟨Nat.le_of_ble_eq_true rfl, Nat.le_of_ble_eq_true rfl⟩) (fun r_18 f_18 hp_18 => ?_)
  obtain ⟨rfl, hf9⟩ := hp_18
  have hf9 := hf9.symm
  subst hf9
  refine v_if_eq (tgt := 27) C dX9_triple_21 (by decide) (fun _ => ?_) (fun c_21 => absurd c_21 (by decide))
  refine v_aload_n C dX9_triple_27 rfl rfl ?_
  refine v_get C dX9_triple_28 3 hM.1 rfl in_X9 (by decide) g_fl_X9_16 (fun _ h9 => h9) rfl ?_
  refine v_iload_n C dX9_triple_31 rfl rfl ?_
  refine m_ild C hM dX9_triple_32 3 i (by decide) (show _ < 40 by omega) rfl ?_
  refine v_ri hr1.1 ?_
  refine v_aload_n C dX9_triple_33 rfl rfl ?_
  refine v_get C dX9_triple_34 3 hM.1 rfl in_X9 (by decide) g_fl_X9_16 (fun _ h9 => h9) rfl ?_
  refine v_iload_n C dX9_triple_37 rfl rfl ?_
  refine m_ild C hM dX9_triple_38 3 j (by decide) (show _ < 40 by omega) rfl ?_
  refine v_ri hr2.1 ?_
  refine v_iadd C dX9_triple_39 ?_
  refine v_ri (nI_add _ _) ?_
  refine v_aload_n C dX9_triple_40 rfl rfl ?_
  refine v_get C dX9_triple_41 3 hM.1 rfl in_X9 (by decide) g_fl_X9_16 (fun _ h9 => h9) rfl ?_
  refine v_iload_n C dX9_triple_44 rfl rfl ?_
  refine m_ild C hM dX9_triple_45 3 k (by decide) (show _ < 40 by omega) rfl ?_
  refine v_ri hr3.1 ?_
  refine v_iadd C dX9_triple_46 ?_
  refine v_ri (nI_add _ _) ?_
  refine v_bipush (v := 8) C dX9_triple_47 (by decide) ?_
  refine v_icmp_le (tgt := 55) C dX9_triple_49 (by decide) (fun c_49 => absurd c_49 (nI_ge (b := l1.length + l2.length + l3.length) (a := 8) hw (by omega))) (fun c_49 => ?_)
  refine v_bipush (v := (-103)) C dX9_triple_52 (by decide) ?_
  exact v_iret C hr hlk dX9_triple_54 (Nat.le_refl _) (Nat.le_refl _) ⟨rfl, rfl⟩

set_option maxHeartbeats 4000000 in
set_option maxRecDepth 100000 in
theorem m_triple_full (l : Launch) (D : va_G) (B : Nat) (K : Nat → ClassId) (f : St) (r : Nat → Nat) (f0 : St) (A : Nat → Nat → Int32) (L : Nat → Nat → Int64) (I : Nat → Int32) (n : Nat) (hM : MC K r f0 f A L I) (hI0 : I 0 = nI n) (hn40 : n ≤ 40) (sg : Nat → Sg) (l1 : List Ent) (i : Nat) (hi : i < n) (hr1 : RowM A L sg l1 i n) (l2 : List Ent) (j : Nat) (hj : j < n) (hr2 : RowM A L sg l2 j n) (l3 : List Ent) (k : Nat) (hk : k < n) (hr3 : RowM A L sg l3 k n) (hw : l1.length + l2.length + l3.length ≤ 8) (hn : n = 40) : Kc l D B K yX9_triple cX9_triple 5 ((some .int)) 4 0 0 [.ref (r 0), .int (nI i), .int (nI j), .int (nI k)] f (Qi_ D B (fun x f9 => x = -104 ∧ f9 = f)) := by
  refine v_met [(0, .ref (r 0)), (1, .int (nI i)), (2, .int (nI j)), (3, .int (nI k))] (by decide) (Nat.le_of_ble_eq_true rfl) rfl ?_
  intro p e s m args below meth c C hr hlk hin
  have hl1 := hr1.2.2.1
  have hl2 := hr2.2.2.1
  have hl3 := hr3.2.2.1
  refine v_aload_n C dX9_triple_0 rfl rfl ?_
  refine v_iload_n C dX9_triple_1 rfl rfl ?_
  refine v_ci (r_V C (m_noRange_ok l D B K _ r f0 A L I n hM hI0 hn40 i hi) dX9_triple_2 hM.1 rfl g_ml_X9_101 g_im_yX9_noRange g_se_X9_yX9_noRange_yX9_noRange g_in_X9 g_cd_yX9_noRange (rn_le (by decide)) (by decide) rfl rfl hdn_yX9_noRange (Nat.le_of_ble_eq_true rfl) ⟨Nat.le_of_ble_eq_true rfl, Nat.le_of_ble_eq_true rfl⟩) (fun r_2 f_2 hp_2 => ?_)
  obtain ⟨rfl, hf9⟩ := hp_2
  have hf9 := hf9.symm
  subst hf9
  refine v_if_ne (tgt := 24) C dX9_triple_5 (by decide) (fun c_5 => absurd c_5 (by decide)) (fun _ => ?_)
  refine v_aload_n C dX9_triple_8 rfl rfl ?_
  refine v_iload_n C dX9_triple_9 rfl rfl ?_
  refine v_ci (r_V C (m_noRange_ok l D B K _ r f0 A L I n hM hI0 hn40 j hj) dX9_triple_10 hM.1 rfl g_ml_X9_101 g_im_yX9_noRange g_se_X9_yX9_noRange_yX9_noRange g_in_X9 g_cd_yX9_noRange (rn_le (by decide)) (by decide) rfl rfl hdn_yX9_noRange (Nat.le_of_ble_eq_true rfl) ⟨Nat.le_of_ble_eq_true rfl, Nat.le_of_ble_eq_true rfl⟩) (fun r_10 f_10 hp_10 => ?_)
  obtain ⟨rfl, hf9⟩ := hp_10
  have hf9 := hf9.symm
  subst hf9
  refine v_if_ne (tgt := 24) C dX9_triple_13 (by decide) (fun c_13 => absurd c_13 (by decide)) (fun _ => ?_)
  refine v_aload_n C dX9_triple_16 rfl rfl ?_
  refine v_iload_n C dX9_triple_17 rfl rfl ?_
  refine v_ci (r_V C (m_noRange_ok l D B K _ r f0 A L I n hM hI0 hn40 k hk) dX9_triple_18 hM.1 rfl g_ml_X9_101 g_im_yX9_noRange g_se_X9_yX9_noRange_yX9_noRange g_in_X9 g_cd_yX9_noRange (rn_le (by decide)) (by decide) rfl rfl hdn_yX9_noRange (Nat.le_of_ble_eq_true rfl) ⟨Nat.le_of_ble_eq_true rfl, Nat.le_of_ble_eq_true rfl⟩) (fun r_18 f_18 hp_18 => ?_)
  obtain ⟨rfl, hf9⟩ := hp_18
  have hf9 := hf9.symm
  subst hf9
  refine v_if_eq (tgt := 27) C dX9_triple_21 (by decide) (fun _ => ?_) (fun c_21 => absurd c_21 (by decide))
  refine v_aload_n C dX9_triple_27 rfl rfl ?_
  refine v_get C dX9_triple_28 3 hM.1 rfl in_X9 (by decide) g_fl_X9_16 (fun _ h9 => h9) rfl ?_
  refine v_iload_n C dX9_triple_31 rfl rfl ?_
  refine m_ild C hM dX9_triple_32 3 i (by decide) (show _ < 40 by omega) rfl ?_
  refine v_ri hr1.1 ?_
  refine v_aload_n C dX9_triple_33 rfl rfl ?_
  refine v_get C dX9_triple_34 3 hM.1 rfl in_X9 (by decide) g_fl_X9_16 (fun _ h9 => h9) rfl ?_
  refine v_iload_n C dX9_triple_37 rfl rfl ?_
  refine m_ild C hM dX9_triple_38 3 j (by decide) (show _ < 40 by omega) rfl ?_
  refine v_ri hr2.1 ?_
  refine v_iadd C dX9_triple_39 ?_
  refine v_ri (nI_add _ _) ?_
  refine v_aload_n C dX9_triple_40 rfl rfl ?_
  refine v_get C dX9_triple_41 3 hM.1 rfl in_X9 (by decide) g_fl_X9_16 (fun _ h9 => h9) rfl ?_
  refine v_iload_n C dX9_triple_44 rfl rfl ?_
  refine m_ild C hM dX9_triple_45 3 k (by decide) (show _ < 40 by omega) rfl ?_
  refine v_ri hr3.1 ?_
  refine v_iadd C dX9_triple_46 ?_
  refine v_ri (nI_add _ _) ?_
  refine v_bipush (v := 8) C dX9_triple_47 (by decide) ?_
  refine v_icmp_le (tgt := 55) C dX9_triple_49 (by decide) (fun c_49 => ?_) (fun c_49 => absurd (nI_le (b := 8) hw (by omega)) c_49)
  refine v_aload_n C dX9_triple_55 rfl rfl ?_
  refine v_get C dX9_triple_56 0 hM.1 rfl in_X9 (by decide) g_fl_X9_54 (fun _ h9 => h9) rfl ?_
  refine v_ri (hI0.trans (by subst hn; rfl)) ?_
  refine v_bipush (v := 40) C dX9_triple_59 (by decide) ?_
  refine v_icmp_ne (tgt := 67) C dX9_triple_61 (by decide) (fun c_61 => absurd rfl c_61) (fun c_61 => ?_)
  refine v_bipush (v := (-104)) C dX9_triple_64 (by decide) ?_
  exact v_iret C hr hlk dX9_triple_66 (Nat.le_refl _) (Nat.le_refl _) ⟨rfl, rfl⟩

set_option maxHeartbeats 4000000 in
set_option maxRecDepth 100000 in
theorem m_triple_new (l : Launch) (D : va_G) (B : Nat) (K : Nat → ClassId) (f : St) (r : Nat → Nat) (f0 : St) (A : Nat → Nat → Int32) (L : Nat → Nat → Int64) (I : Nat → Int32) (n : Nat) (hM : MC K r f0 f A L I) (hI0 : I 0 = nI n) (hn40 : n ≤ 40) (sg : Nat → Sg) (l1 : List Ent) (i : Nat) (hi : i < n) (hr1 : RowM A L sg l1 i n) (l2 : List Ent) (j : Nat) (hj : j < n) (hr2 : RowM A L sg l2 j n) (l3 : List Ent) (k : Nat) (hk : k < n) (hr3 : RowM A L sg l3 k n) (hw : l1.length + l2.length + l3.length ≤ 8) (hn : n < 40) : Kc l D B K yX9_triple cX9_triple 5 ((some .int)) 4 0 0 [.ref (r 0), .int (nI i), .int (nI j), .int (nI k)] f (Qi_ D B (fun x f9 => x = nI n ∧ ∃ A2 A3 A4, TK (begA A n 6 3 (nI (l1.length + l2.length + l3.length))) A2 n 0 i l1.length 0 ∧ TK A2 A3 n l1.length j l2.length 0 ∧ TK A3 A4 n (l1.length + l2.length) k l3.length 0 ∧ RowM A4 L sg ((l1 ++ l2 ++ l3).map deepE) n n ∧ MC K r f0 f9 A4 (up1 L 4 (vp_updL (L 4) n (sat (prodE sg ((l1 ++ l2 ++ l3).map deepE))))) (up1 I 0 (nI (n + 1))))) := by
  refine v_met [(0, .ref (r 0)), (1, .int (nI i)), (2, .int (nI j)), (3, .int (nI k))] (by decide) (Nat.le_of_ble_eq_true rfl) rfl ?_
  intro p e s m args below meth c C hr hlk hin
  have hl1 := hr1.2.2.1
  have hl2 := hr2.2.2.1
  have hl3 := hr3.2.2.1
  refine v_aload_n C dX9_triple_0 rfl rfl ?_
  refine v_iload_n C dX9_triple_1 rfl rfl ?_
  refine v_ci (r_V C (m_noRange_ok l D B K _ r f0 A L I n hM hI0 hn40 i hi) dX9_triple_2 hM.1 rfl g_ml_X9_101 g_im_yX9_noRange g_se_X9_yX9_noRange_yX9_noRange g_in_X9 g_cd_yX9_noRange (rn_le (by decide)) (by decide) rfl rfl hdn_yX9_noRange (Nat.le_of_ble_eq_true rfl) ⟨Nat.le_of_ble_eq_true rfl, Nat.le_of_ble_eq_true rfl⟩) (fun r_2 f_2 hp_2 => ?_)
  obtain ⟨rfl, hf9⟩ := hp_2
  have hf9 := hf9.symm
  subst hf9
  refine v_if_ne (tgt := 24) C dX9_triple_5 (by decide) (fun c_5 => absurd c_5 (by decide)) (fun _ => ?_)
  refine v_aload_n C dX9_triple_8 rfl rfl ?_
  refine v_iload_n C dX9_triple_9 rfl rfl ?_
  refine v_ci (r_V C (m_noRange_ok l D B K _ r f0 A L I n hM hI0 hn40 j hj) dX9_triple_10 hM.1 rfl g_ml_X9_101 g_im_yX9_noRange g_se_X9_yX9_noRange_yX9_noRange g_in_X9 g_cd_yX9_noRange (rn_le (by decide)) (by decide) rfl rfl hdn_yX9_noRange (Nat.le_of_ble_eq_true rfl) ⟨Nat.le_of_ble_eq_true rfl, Nat.le_of_ble_eq_true rfl⟩) (fun r_10 f_10 hp_10 => ?_)
  obtain ⟨rfl, hf9⟩ := hp_10
  have hf9 := hf9.symm
  subst hf9
  refine v_if_ne (tgt := 24) C dX9_triple_13 (by decide) (fun c_13 => absurd c_13 (by decide)) (fun _ => ?_)
  refine v_aload_n C dX9_triple_16 rfl rfl ?_
  refine v_iload_n C dX9_triple_17 rfl rfl ?_
  refine v_ci (r_V C (m_noRange_ok l D B K _ r f0 A L I n hM hI0 hn40 k hk) dX9_triple_18 hM.1 rfl g_ml_X9_101 g_im_yX9_noRange g_se_X9_yX9_noRange_yX9_noRange g_in_X9 g_cd_yX9_noRange (rn_le (by decide)) (by decide) rfl rfl hdn_yX9_noRange (Nat.le_of_ble_eq_true rfl) ⟨Nat.le_of_ble_eq_true rfl, Nat.le_of_ble_eq_true rfl⟩) (fun r_18 f_18 hp_18 => ?_)
  obtain ⟨rfl, hf9⟩ := hp_18
  have hf9 := hf9.symm
  subst hf9
  refine v_if_eq (tgt := 27) C dX9_triple_21 (by decide) (fun _ => ?_) (fun c_21 => absurd c_21 (by decide))
  refine v_aload_n C dX9_triple_27 rfl rfl ?_
  refine v_get C dX9_triple_28 3 hM.1 rfl in_X9 (by decide) g_fl_X9_16 (fun _ h9 => h9) rfl ?_
  refine v_iload_n C dX9_triple_31 rfl rfl ?_
  refine m_ild C hM dX9_triple_32 3 i (by decide) (show _ < 40 by omega) rfl ?_
  refine v_ri hr1.1 ?_
  refine v_aload_n C dX9_triple_33 rfl rfl ?_
  refine v_get C dX9_triple_34 3 hM.1 rfl in_X9 (by decide) g_fl_X9_16 (fun _ h9 => h9) rfl ?_
  refine v_iload_n C dX9_triple_37 rfl rfl ?_
  refine m_ild C hM dX9_triple_38 3 j (by decide) (show _ < 40 by omega) rfl ?_
  refine v_ri hr2.1 ?_
  refine v_iadd C dX9_triple_39 ?_
  refine v_ri (nI_add _ _) ?_
  refine v_aload_n C dX9_triple_40 rfl rfl ?_
  refine v_get C dX9_triple_41 3 hM.1 rfl in_X9 (by decide) g_fl_X9_16 (fun _ h9 => h9) rfl ?_
  refine v_iload_n C dX9_triple_44 rfl rfl ?_
  refine m_ild C hM dX9_triple_45 3 k (by decide) (show _ < 40 by omega) rfl ?_
  refine v_ri hr3.1 ?_
  refine v_iadd C dX9_triple_46 ?_
  refine v_ri (nI_add _ _) ?_
  refine v_bipush (v := 8) C dX9_triple_47 (by decide) ?_
  refine v_icmp_le (tgt := 55) C dX9_triple_49 (by decide) (fun c_49 => ?_) (fun c_49 => absurd (nI_le (b := 8) hw (by omega)) c_49)
  refine v_aload_n C dX9_triple_55 rfl rfl ?_
  refine v_get C dX9_triple_56 0 hM.1 rfl in_X9 (by decide) g_fl_X9_54 (fun _ h9 => h9) rfl ?_
  refine v_ri hI0 ?_
  refine v_bipush (v := 40) C dX9_triple_59 (by decide) ?_
  refine v_icmp_ne (tgt := 67) C dX9_triple_61 (by decide) (fun c_61 => ?_) (fun c_61 => absurd c_61 (fun h9 => by have h8 := (nI_eq (b := 40) (by omega) (by omega)).mp h9; omega))
  refine v_aload_n C dX9_triple_67 rfl rfl ?_
  refine v_bipush (v := 6) C dX9_triple_68 (by decide) ?_
  refine v_iconst (v := 3) C dX9_triple_70 (by decide) ?_
  refine v_aload_n C dX9_triple_71 rfl rfl ?_
  refine v_get C dX9_triple_72 3 hM.1 rfl in_X9 (by decide) g_fl_X9_16 (fun _ h9 => h9) rfl ?_
  refine v_iload_n C dX9_triple_75 rfl rfl ?_
  refine m_ild C hM dX9_triple_76 3 i (by decide) (show _ < 40 by omega) rfl ?_
  refine v_ri hr1.1 ?_
  refine v_aload_n C dX9_triple_77 rfl rfl ?_
  refine v_get C dX9_triple_78 3 hM.1 rfl in_X9 (by decide) g_fl_X9_16 (fun _ h9 => h9) rfl ?_
  refine v_iload_n C dX9_triple_81 rfl rfl ?_
  refine m_ild C hM dX9_triple_82 3 j (by decide) (show _ < 40 by omega) rfl ?_
  refine v_ri hr2.1 ?_
  refine v_iadd C dX9_triple_83 ?_
  refine v_ri (nI_add _ _) ?_
  refine v_aload_n C dX9_triple_84 rfl rfl ?_
  refine v_get C dX9_triple_85 3 hM.1 rfl in_X9 (by decide) g_fl_X9_16 (fun _ h9 => h9) rfl ?_
  refine v_iload_n C dX9_triple_88 rfl rfl ?_
  refine m_ild C hM dX9_triple_89 3 k (by decide) (show _ < 40 by omega) rfl ?_
  refine v_ri hr3.1 ?_
  refine v_iadd C dX9_triple_90 ?_
  refine v_ri (nI_add _ _) ?_
  refine v_ci (r_V C (m_begin l D B K _ r f0 A L I n 6 3 (nI (l1.length + l2.length + l3.length)) hM hI0 (by omega)) dX9_triple_91 hM.1 rfl g_ml_X9_105 g_im_yX9_begin g_se_X9_yX9_begin_yX9_begin g_in_X9 g_cd_yX9_begin (rn_le (by decide)) (by decide) rfl rfl hdn_yX9_begin (Nat.le_of_ble_eq_true rfl) ⟨Nat.le_of_ble_eq_true rfl, Nat.le_of_ble_eq_true rfl⟩) (fun r_91 f_91 hp_91 => ?_)
  obtain ⟨rfl, hM⟩ := hp_91
  refine v_istore C dX9_triple_94 (by decide) rfl ?_
  refine v_aload_n C dX9_triple_96 rfl rfl ?_
  refine v_iload C dX9_triple_97 rfl ?_
  refine v_iconst (v := 0) C dX9_triple_99 (by decide) ?_
  refine v_iload_n C dX9_triple_100 rfl rfl ?_
  refine v_iconst (v := 0) C dX9_triple_101 (by decide) ?_
  refine v_cv (r_V C (m_take l D B K _ r f0 (begA A n 6 3 (nI (l1.length + l2.length + l3.length))) L (up1 I 0 (nI (n + 1))) n 0 i l1.length 0 (by rw [beg_w (by omega)]; exact hr1.1) (by omega) hi (by omega) hM) dX9_triple_102 hM.1 rfl g_ml_X9_109 g_im_yX9_take g_se_X9_yX9_take_yX9_take g_in_X9 g_cd_yX9_take (rn_le (by decide)) (by decide) rfl rfl hdn_yX9_take (Nat.le_of_ble_eq_true rfl) ⟨Nat.le_of_ble_eq_true rfl, Nat.le_of_ble_eq_true rfl⟩) (fun f_102 hp_102 => ?_)
  obtain ⟨A2, hM, hT1⟩ := hp_102
  refine v_aload_n C dX9_triple_105 rfl rfl ?_
  refine v_iload C dX9_triple_106 rfl ?_
  refine v_aload_n C dX9_triple_108 rfl rfl ?_
  refine v_get C dX9_triple_109 3 hM.1 rfl in_X9 (by decide) g_fl_X9_16 (fun _ h9 => h9) rfl ?_
  refine v_iload_n C dX9_triple_112 rfl rfl ?_
  refine m_ild C hM dX9_triple_113 3 i (by decide) (show _ < 40 by omega) rfl ?_
  refine v_ri (show _ = nI l1.length by rw [hT1.w, beg_w (by omega)]; exact hr1.1) ?_
  refine v_iload_n C dX9_triple_114 rfl rfl ?_
  refine v_iconst (v := 0) C dX9_triple_115 (by decide) ?_
  refine v_cv (r_V C (m_take l D B K _ r f0 A2 L (up1 I 0 (nI (n + 1))) n l1.length j l2.length 0 (by rw [hT1.w, beg_w (by omega)]; exact hr2.1) (by omega) hj (by omega) hM) dX9_triple_116 hM.1 rfl g_ml_X9_109 g_im_yX9_take g_se_X9_yX9_take_yX9_take g_in_X9 g_cd_yX9_take (rn_le (by decide)) (by decide) rfl rfl hdn_yX9_take (Nat.le_of_ble_eq_true rfl) ⟨Nat.le_of_ble_eq_true rfl, Nat.le_of_ble_eq_true rfl⟩) (fun f_116 hp_116 => ?_)
  obtain ⟨A3, hM, hT2⟩ := hp_116
  refine v_aload_n C dX9_triple_119 rfl rfl ?_
  refine v_iload C dX9_triple_120 rfl ?_
  refine v_aload_n C dX9_triple_122 rfl rfl ?_
  refine v_get C dX9_triple_123 3 hM.1 rfl in_X9 (by decide) g_fl_X9_16 (fun _ h9 => h9) rfl ?_
  refine v_iload_n C dX9_triple_126 rfl rfl ?_
  refine m_ild C hM dX9_triple_127 3 i (by decide) (show _ < 40 by omega) rfl ?_
  refine v_ri (show _ = nI l1.length by rw [hT2.w, hT1.w, beg_w (by omega)]; exact hr1.1) ?_
  refine v_aload_n C dX9_triple_128 rfl rfl ?_
  refine v_get C dX9_triple_129 3 hM.1 rfl in_X9 (by decide) g_fl_X9_16 (fun _ h9 => h9) rfl ?_
  refine v_iload_n C dX9_triple_132 rfl rfl ?_
  refine m_ild C hM dX9_triple_133 3 j (by decide) (show _ < 40 by omega) rfl ?_
  refine v_ri (show _ = nI l2.length by rw [hT2.w, hT1.w, beg_w (by omega)]; exact hr2.1) ?_
  refine v_iadd C dX9_triple_134 ?_
  refine v_ri (nI_add _ _) ?_
  refine v_iload_n C dX9_triple_135 rfl rfl ?_
  refine v_iconst (v := 0) C dX9_triple_136 (by decide) ?_
  refine v_cv (r_V C (m_take l D B K _ r f0 A3 L (up1 I 0 (nI (n + 1))) n (l1.length + l2.length) k l3.length 0 (by rw [hT2.w, hT1.w, beg_w (by omega)]; exact hr3.1) (by omega) hk (by omega) hM) dX9_triple_137 hM.1 rfl g_ml_X9_109 g_im_yX9_take g_se_X9_yX9_take_yX9_take g_in_X9 g_cd_yX9_take (rn_le (by decide)) (by decide) rfl rfl hdn_yX9_take (Nat.le_of_ble_eq_true rfl) ⟨Nat.le_of_ble_eq_true rfl, Nat.le_of_ble_eq_true rfl⟩) (fun f_137 hp_137 => ?_)
  obtain ⟨A4, hM, hT3⟩ := hp_137
  have hP1 : RowP A4 L sg (l1.map deepE) (8 * n) n := (((hr1.p.beg).take0 hT1).keep hT2 (by rw [List.length_map]; omega)).keep hT3 (by rw [List.length_map]; omega)
  have hP2 : RowP A4 L sg (l2.map deepE) (8 * n + (l1.length)) n := (((hr2.p.beg).keep hT1 (by omega)).take0 hT2).keep hT3 (by rw [List.length_map]; omega)
  have hP3 : RowP A4 L sg (l3.map deepE) (8 * n + (l1.length + l2.length)) n := (((hr3.p.beg).keep hT1 (by omega)).keep hT2 (by omega)).take0 hT3
  have hP : RowP A4 L sg ((l1 ++ l2 ++ l3).map deepE) (8 * n) n := by rw [List.map_append, List.map_append]; exact (hP1.app (by rw [List.length_map]; exact hP2)).app (by rw [List.length_append, List.length_map, List.length_map]; exact hP3)
  have hR : RowM A4 L sg ((l1 ++ l2 ++ l3).map deepE) n n := hP.m (by rw [hT3.w, hT2.w, hT1.w, beg_w0]; simp [Nat.add_assoc]) (by simp; have := hr1.2.1; omega) (by simp; omega)
  refine v_aload_n C dX9_triple_140 rfl rfl ?_
  refine v_get C dX9_triple_141 4 hM.1 rfl in_X9 (by decide) g_fl_X9_19 (fun _ h9 => h9) rfl ?_
  refine v_iload C dX9_triple_144 rfl ?_
  refine v_aload_n C dX9_triple_146 rfl rfl ?_
  refine v_iload C dX9_triple_147 rfl ?_
  refine v_cl (r_V C (m_sizeOf l D B K _ r f0 A4 L (up1 I 0 (nI (n + 1))) sg ((l1 ++ l2 ++ l3).map deepE) n n hM hR (by omega) (by omega)) dX9_triple_149 hM.1 rfl g_ml_X9_113 g_im_yX9_sizeOf g_se_X9_yX9_sizeOf_yX9_sizeOf g_in_X9 g_cd_yX9_sizeOf (rn_le (by decide)) (by decide) rfl rfl hdn_yX9_sizeOf (Nat.le_of_ble_eq_true rfl) ⟨Nat.le_of_ble_eq_true rfl, Nat.le_of_ble_eq_true rfl⟩) (fun r_149 f_149 hp_149 => ?_)
  obtain ⟨rfl, hf9⟩ := hp_149
  have hf9 := hf9.symm
  subst hf9
  refine m_lst C hM dX9_triple_152 4 n (by decide) (show _ < 40 by omega) rfl (fun f hM => ?_)
  refine v_iload C dX9_triple_153 rfl ?_
  exact v_iret C hr hlk dX9_triple_155 (Nat.le_refl _) (Nat.le_refl _) ⟨rfl, A2, A3, A4, hT1, hT2, hT3, hR, hM⟩

