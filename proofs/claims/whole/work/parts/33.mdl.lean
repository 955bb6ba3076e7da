/-! the reference: its cells by the numbers of its fields -/
def szM (k : Nat) : Nat := match k with
  | 8 => 320
  | 9 => 320
  | 10 => 320
  | 11 => 8
  | 12 => 8
  | 19 => 6
  | 20 => 2400
  | _ => 40
theorem szM_lt (k : Nat) : szM k < 2 ^ 31 := by
  unfold szM
  split <;> decide
abbrev miL : List Nat := [1, 2, 3, 7, 8, 10, 19, 20]
abbrev mlL : List Nat := [4, 5, 6, 11, 12]
abbrev maL : List Nat := [0, 1, 2, 3, 4, 5, 6, 7, 8, 9, 10, 11, 12, 19, 20]
def up1 {α : Type} (A : Nat → α) (k : Nat) (g : α) : Nat → α := fun j => cond (Nat.beq j k) g (A j)
theorem up1_self {α : Type} (A : Nat → α) (k : Nat) (g : α) : up1 A k g k = g := by
  unfold up1
  rw [Nat.beq_refl]
  rfl
theorem up1_ne {α : Type} (A : Nat → α) {k j : Nat} (g : α) (h : j ≠ k) : up1 A k g j = A j := by
  unfold up1
  cases hb : Nat.beq j k with
  | true => exact absurd (Nat.eq_of_beq_eq_true hb) h
  | false => rfl
def mOf (r : Nat → Nat) (I : Nat → Int32) : List Value := [.int (I 0), .ref (r 1), .ref (r 2), .ref (r 3), .ref (r 4), .ref (r 5), .ref (r 6), .ref (r 7), .ref (r 8), .ref (r 9), .ref (r 10), .ref (r 11), .ref (r 12), .int (I 13), .int (I 14), .int (I 15), .int (I 16), .int (I 17), .int (I 18), .ref (r 19), .ref (r 20), .int (I 21)]
def MC (K : Nat → ClassId) (r : Nat → Nat) (f0 f : St) (A : Nat → Nat → Int32) (L : Nat → Nat → Int64) (I : Nat → Int32) : Prop :=
  f (r 0) = some (.inr (7, mOf r I)) ∧ (∀ k ∈ miL, f (r k) = some (.inl (K 0, szM k, .inl (A k)))) ∧ f (r 9) = some (.inl (K 2, 320, .inl (A 9))) ∧ (∀ k ∈ mlL, f (r k) = some (.inl (K 1, szM k, .inr (.inl (L k))))) ∧
  (∀ i ∈ maL, ∀ j ∈ maL, r i = r j → i = j) ∧ (∀ a x, (∀ j ∈ maL, a ≠ r j) → f0 a = some x → f a = some x)
theorem mi_a {k : Nat} (h : k ∈ miL) : k ∈ maL ∧ k ≠ 0 ∧ k ≠ 9 ∧ k ∉ mlL := (by decide : ∀ k ∈ miL, k ∈ maL ∧ k ≠ 0 ∧ k ≠ 9 ∧ k ∉ mlL) k h
theorem ml_a {k : Nat} (h : k ∈ mlL) : k ∈ maL ∧ k ≠ 0 ∧ k ≠ 9 ∧ k ∉ miL := (by decide : ∀ k ∈ mlL, k ∈ maL ∧ k ≠ 0 ∧ k ≠ 9 ∧ k ∉ miL) k h
section MM
variable {K : Nat → ClassId} {r : Nat → Nat} {f0 f : St} {A : Nat → Nat → Int32} {L : Nat → Nat → Int64} {I : Nat → Int32}
theorem MC.ne (h : MC K r f0 f A L I) {i j : Nat} (hi : i ∈ maL) (hj : j ∈ maL) (hne : i ≠ j) : r i ≠ r j := fun e => hne (h.2.2.2.2.1 i hi j hj e)
theorem MC.seti (h : MC K r f0 f A L I) {k : Nat} (hk : k ∈ miL) (g : Nat → Int32) : MC K r f0 (va_up f (r k) (some (.inl (K 0, szM k, .inl g)))) (up1 A k g) L I := by
  obtain ⟨k1, k2, k3, k4⟩ := mi_a hk
  refine ⟨by rw [va_up_ne _ _ (h.ne (by decide) k1 (Ne.symm k2))]; exact h.1, fun j hj => ?_, by rw [va_up_ne _ _ (h.ne (by decide) k1 (Ne.symm k3)), up1_ne _ _ (Ne.symm k3)]; exact h.2.2.1, fun j hj => ?_, h.2.2.2.2.1, fun a x ha hx => by rw [va_up_ne _ _ (ha k k1)]; exact h.2.2.2.2.2 a x ha hx⟩
  · by_cases e : j = k
    · subst e; rw [va_up_self, up1_self]
    · rw [va_up_ne _ _ (h.ne (mi_a hj).1 k1 e), up1_ne _ _ e]; exact h.2.1 j hj
  · have e : j ≠ k := fun e => by subst e; exact k4 hj
    rw [va_up_ne _ _ (h.ne (ml_a hj).1 k1 e)]; exact h.2.2.2.1 j hj
theorem MC.setz (h : MC K r f0 f A L I) (g : Nat → Int32) : MC K r f0 (va_up f (r 9) (some (.inl (K 2, 320, .inl g)))) (up1 A 9 g) L I := by
  refine ⟨by rw [va_up_ne _ _ (h.ne (by decide) (by decide) (by decide))]; exact h.1, fun j hj => ?_, by rw [va_up_self, up1_self], fun j hj => ?_, h.2.2.2.2.1, fun a x ha hx => by rw [va_up_ne _ _ (ha 9 (by decide))]; exact h.2.2.2.2.2 a x ha hx⟩
  · rw [va_up_ne _ _ (h.ne (mi_a hj).1 (by decide) (mi_a hj).2.2.1), up1_ne _ _ (mi_a hj).2.2.1]; exact h.2.1 j hj
  · rw [va_up_ne _ _ (h.ne (ml_a hj).1 (by decide) (ml_a hj).2.2.1)]; exact h.2.2.2.1 j hj
theorem MC.setl (h : MC K r f0 f A L I) {k : Nat} (hk : k ∈ mlL) (g : Nat → Int64) : MC K r f0 (va_up f (r k) (some (.inl (K 1, szM k, .inr (.inl g))))) A (up1 L k g) I := by
  obtain ⟨k1, k2, k3, k4⟩ := ml_a hk
  refine ⟨by rw [va_up_ne _ _ (h.ne (by decide) k1 (Ne.symm k2))]; exact h.1, fun j hj => ?_, by rw [va_up_ne _ _ (h.ne (by decide) k1 (Ne.symm k3))]; exact h.2.2.1, fun j hj => ?_, h.2.2.2.2.1, fun a x ha hx => by rw [va_up_ne _ _ (ha k k1)]; exact h.2.2.2.2.2 a x ha hx⟩
  · have e : j ≠ k := fun e => by subst e; exact k4 hj
    rw [va_up_ne _ _ (h.ne (mi_a hj).1 k1 e)]; exact h.2.1 j hj
  · by_cases e : j = k
    · subst e; rw [va_up_self, up1_self]
    · rw [va_up_ne _ _ (h.ne (ml_a hj).1 k1 e), up1_ne _ _ e]; exact h.2.2.2.1 j hj
theorem MC.seto (h : MC K r f0 f A L I) (I2 : Nat → Int32) : MC K r f0 (va_up f (r 0) (some (.inr (7, mOf r I2)))) A L I2 := by
  refine ⟨by rw [va_up_self], fun j hj => ?_, by rw [va_up_ne _ _ (h.ne (by decide) (by decide) (by decide))]; exact h.2.2.1, fun j hj => ?_, h.2.2.2.2.1, fun a x ha hx => by rw [va_up_ne _ _ (ha 0 (by decide))]; exact h.2.2.2.2.2 a x ha hx⟩
  · rw [va_up_ne _ _ (h.ne (mi_a hj).1 (by decide) (mi_a hj).2.1)]; exact h.2.1 j hj
  · rw [va_up_ne _ _ (h.ne (ml_a hj).1 (by decide) (ml_a hj).2.1)]; exact h.2.2.2.1 j hj
theorem MC.base (h : MC K r f0 f A L I) : MC K r f f A L I := ⟨h.1, h.2.1, h.2.2.1, h.2.2.2.1, h.2.2.2.2.1, fun _ _ _ hx => hx⟩
theorem MC.tr {f1 : St} {A1 : Nat → Nat → Int32} {L1 : Nat → Nat → Int64} {I1 : Nat → Int32} (h : MC K r f0 f A L I) (h1 : MC K r f f1 A1 L1 I1) : MC K r f0 f1 A1 L1 I1 := ⟨h1.1, h1.2.1, h1.2.2.1, h1.2.2.2.1, h1.2.2.2.2.1, fun a x ha hx => h1.2.2.2.2.2 a x ha (h.2.2.2.2.2 a x ha hx)⟩
end MM
section MV
variable {p : Program} {l : Launch} {e : Env} {R : Room} {s : State} {m : MethodId} {args : Array Value} {below : List Frame} {meth : Method} {c : Code} {D : va_G} {B nL : Nat} {Q : State → Prop} {ce sl : Nat} {f : St} {lv : Lv} {pc : Nat} {st : List Value} {cc : ByteArray} {own : String} {K : Nat → ClassId} {r : Nat → Nat} {f0 : St} {A : Nat → Nat → Int32} {L : Nat → Nat → Int64} {I : Nat → Int32}
theorem m_ild (C : Cx p s m args c cc nL own D B K) (hM : MC K r f0 f A L I) {i : Int32} (hd : decode cc pc = .ok (.iaload, 1)) (k9 j : Nat) (hk : k9 ∈ miL) (hj : j < szM k9) (hi : i = nI j) (k : V p l e R s m args below meth c D B nL Q ce sl f lv (pc + 1) (.int (A k9 j) :: st)) : V p l e R s m args below meth c D B nL Q ce sl f lv pc (.int i :: .ref (r k9) :: st) := by
  subst hi
  exact v_iald C hd (hM.2.1 k9 hk) (vp_in_nI hj (szM_lt k9)) (by rw [nI_clamp (Nat.lt_trans hj (szM_lt k9))]; exact k)
theorem m_zld (C : Cx p s m args c cc nL own D B K) (hM : MC K r f0 f A L I) {i : Int32} (hd : decode cc pc = .ok (.baload, 1)) (j : Nat) (hj : j < 320) (hi : i = nI j) (k : V p l e R s m args below meth c D B nL Q ce sl f lv (pc + 1) (.int (A 9 j) :: st)) : V p l e R s m args below meth c D B nL Q ce sl f lv pc (.int i :: .ref (r 9) :: st) := by
  subst hi
  exact v_zald C hd hM.2.2.1 (vp_in_nI hj (by decide)) (by rw [nI_clamp (by omega)]; exact k)
theorem m_lld (C : Cx p s m args c cc nL own D B K) (hM : MC K r f0 f A L I) {i : Int32} (hd : decode cc pc = .ok (.laload, 1)) (k9 j : Nat) (hk : k9 ∈ mlL) (hj : j < szM k9) (hi : i = nI j) (k : V p l e R s m args below meth c D B nL Q ce sl f lv (pc + 1) (.long (L k9 j) :: st)) : V p l e R s m args below meth c D B nL Q ce sl f lv pc (.int i :: .ref (r k9) :: st) := by
  subst hi
  exact v_lald C hd (hM.2.2.2.1 k9 hk) (vp_in_nI hj (szM_lt k9)) (by rw [nI_clamp (Nat.lt_trans hj (szM_lt k9))]; exact k)
theorem m_ist (C : Cx p s m args c cc nL own D B K) (hM : MC K r f0 f A L I) {i x : Int32} (hd : decode cc pc = .ok (.iastore, 1)) (k9 j : Nat) (hk : k9 ∈ miL) (hj : j < szM k9) (hi : i = nI j) (k : ∀ f2, MC K r f0 f2 (up1 A k9 (upd (A k9) j x)) L I → V p l e R s m args below meth c D B nL Q ce sl f2 lv (pc + 1) st) : V p l e R s m args below meth c D B nL Q ce sl f lv pc (.int x :: .int i :: .ref (r k9) :: st) := by
  subst hi
  exact v_iast C hd (hM.2.1 k9 hk) (vp_in_nI hj (szM_lt k9)) (by rw [nI_clamp (Nat.lt_trans hj (szM_lt k9))]; exact k _ (hM.seti hk _))
theorem m_zst (C : Cx p s m args c cc nL own D B K) (hM : MC K r f0 f A L I) {i x : Int32} (hd : decode cc pc = .ok (.bastore, 1)) (j : Nat) (hj : j < 320) (hi : i = nI j) (hx : vp_nar .boolean x = x) (k : ∀ f2, MC K r f0 f2 (up1 A 9 (upd (A 9) j x)) L I → V p l e R s m args below meth c D B nL Q ce sl f2 lv (pc + 1) st) : V p l e R s m args below meth c D B nL Q ce sl f lv pc (.int x :: .int i :: .ref (r 9) :: st) := by
  subst hi
  exact v_zast C hd hM.2.2.1 (vp_in_nI hj (by decide)) (by rw [nI_clamp (by omega), hx]; exact k _ (hM.setz _))
theorem m_lst (C : Cx p s m args c cc nL own D B K) (hM : MC K r f0 f A L I) {i : Int32} {x : Int64} (hd : decode cc pc = .ok (.lastore, 1)) (k9 j : Nat) (hk : k9 ∈ mlL) (hj : j < szM k9) (hi : i = nI j) (k : ∀ f2, MC K r f0 f2 A (up1 L k9 (vp_updL (L k9) j x)) I → V p l e R s m args below meth c D B nL Q ce sl f2 lv (pc + 1) st) : V p l e R s m args below meth c D B nL Q ce sl f lv pc (.long x :: .int i :: .ref (r k9) :: st) := by
  subst hi
  exact v_last C hd (hM.2.2.2.1 k9 hk) (vp_in_nI hj (szM_lt k9)) (by rw [nI_clamp (Nat.lt_trans hj (szM_lt k9))]; exact k _ (hM.setl hk _))
theorem m_put (C : Cx p s m args c cc nL own D B K) (hM : MC K r f0 f A L I) {index : Nat} {v : Int32} (hd : decode cc pc = .ok (.putfield index, 3)) (k9 : Nat) (hk : k9 = 0 ∨ k9 = 14 ∨ k9 = 15 ∨ k9 = 16 ∨ k9 = 17 ∨ k9 = 18 ∨ k9 = 21) (hg : Cond.fieldLink own index RX9 (TX9 k9).2.1 (TX9 k9).2.2.1 ∈ GT) (k : ∀ f2, MC K r f0 f2 A L (up1 I k9 v) → V p l e R s m args below meth c D B nL Q ce sl f2 lv (pc + 3) st) : V p l e R s m args below meth c D B nL Q ce sl f lv pc (.int v :: .ref (r 0) :: st) := by
  rcases hk with rfl | rfl | rfl | rfl | rfl | rfl | rfl
  · exact v_put C hd 0 hM.1 rfl in_X9 tyX9 tyX9_ok nmX9 (by decide) hg (fun _ h9 => h9) rfl (tyX_at tyX9_ok (by decide)) rfl rfl (Nat.le_of_ble_eq_true rfl) (k _ (hM.seto (up1 I 0 v)))
  · exact v_put C hd 14 hM.1 rfl in_X9 tyX9 tyX9_ok nmX9 (by decide) hg (fun _ h9 => h9) rfl (tyX_at tyX9_ok (by decide)) rfl rfl (Nat.le_of_ble_eq_true rfl) (k _ (hM.seto (up1 I 14 v)))
  · exact v_put C hd 15 hM.1 rfl in_X9 tyX9 tyX9_ok nmX9 (by decide) hg (fun _ h9 => h9) rfl (tyX_at tyX9_ok (by decide)) rfl rfl (Nat.le_of_ble_eq_true rfl) (k _ (hM.seto (up1 I 15 v)))
  · exact v_put C hd 16 hM.1 rfl in_X9 tyX9 tyX9_ok nmX9 (by decide) hg (fun _ h9 => h9) rfl (tyX_at tyX9_ok (by decide)) rfl rfl (Nat.le_of_ble_eq_true rfl) (k _ (hM.seto (up1 I 16 v)))
  · exact v_put C hd 17 hM.1 rfl in_X9 tyX9 tyX9_ok nmX9 (by decide) hg (fun _ h9 => h9) rfl (tyX_at tyX9_ok (by decide)) rfl rfl (Nat.le_of_ble_eq_true rfl) (k _ (hM.seto (up1 I 17 v)))
  · exact v_put C hd 18 hM.1 rfl in_X9 tyX9 tyX9_ok nmX9 (by decide) hg (fun _ h9 => h9) rfl (tyX_at tyX9_ok (by decide)) rfl rfl (Nat.le_of_ble_eq_true rfl) (k _ (hM.seto (up1 I 18 v)))
  · exact v_put C hd 21 hM.1 rfl in_X9 tyX9 tyX9_ok nmX9 (by decide) hg (fun _ h9 => h9) rfl (tyX_at tyX9_ok (by decide)) rfl rfl (Nat.le_of_ble_eq_true rfl) (k _ (hM.seto (up1 I 21 v)))
theorem m_putz (C : Cx p s m args c cc nL own D B K) (hM : MC K r f0 f A L I) {index : Nat} {v : Int32} (hd : decode cc pc = .ok (.putfield index, 3)) (hn : narrow .boolean (.int v) = .int v) (hft : fits .boolean (.int v) = true) (hg : Cond.fieldLink own index RX9 (TX9 13).2.1 (TX9 13).2.2.1 ∈ GT) (k : ∀ f2, MC K r f0 f2 A L (up1 I 13 v) → V p l e R s m args below meth c D B nL Q ce sl f2 lv (pc + 3) st) : V p l e R s m args below meth c D B nL Q ce sl f lv pc (.int v :: .ref (r 0) :: st) := by
  exact v_put C hd 13 hM.1 rfl in_X9 tyX9 tyX9_ok nmX9 (by decide) hg (fun _ h9 => h9) rfl (tyX_at tyX9_ok (by decide)) hn hft (Nat.le_of_ble_eq_true rfl) (k _ (hM.seto (up1 I 13 v)))
end MV
