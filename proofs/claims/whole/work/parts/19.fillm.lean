/-! fill: the element of an index, number by number -/
def vE (sg : Nat → Sg) : List Ent → Nat → Nat → Int64
  | [], _, _ => 0
  | e :: t, k, 0 => valS (sg e.1) (digE sg e (k / prodE sg t))
  | _ :: t, k, j + 1 => vE sg t (k % prodE sg t) j
def filG (sg : Nat → Sg) (l : List Ent) (a k : Nat) (g : Nat → Int64) : Nat → Int64 := fun j => if a ≤ j ∧ j < a + l.length then vE sg l k (j - a) else g j
theorem vE_app (sg : Nat → Sg) (l1 l2 : List Ent) : ∀ k j, vE sg (l1 ++ l2) k j = if j < l1.length then vE sg l1 (k / prodE sg l2) j else vE sg l2 (if l1 = [] then k else k % prodE sg l2) (j - l1.length) := by
  induction l1 with
  | nil => intro k j; simp
  | cons e t ih =>
    intro k j
    rw [if_neg (List.cons_ne_nil e t)]
    cases j with
    | zero =>
      rw [if_pos (by simp)]
      show valS (sg e.1) (digE sg e (k / prodE sg (t ++ l2))) = valS (sg e.1) (digE sg e (k / prodE sg l2 / prodE sg t))
      rw [prod_app, Nat.mul_comm, Nat.div_div_eq_div_mul]
    | succ j =>
      show vE sg (t ++ l2) (k % prodE sg (t ++ l2)) j = _
      rw [ih, prod_app]
      by_cases hj : j < t.length
      · rw [if_pos hj, if_pos (show j + 1 < (e :: t).length by simp; omega)]
        show _ = vE sg t (k / prodE sg l2 % prodE sg t) j
        rw [Nat.mul_comm, Nat.mod_mul_right_div_self]
      · rw [if_neg hj, if_neg (show ¬ j + 1 < (e :: t).length by simp; omega)]
        have e1 : j + 1 - (e :: t).length = j - t.length := by simp
        rw [e1]
        congr 1
        by_cases ht : t = []
        · subst ht
          rw [if_pos rfl]
          simp [prodE]
        · rw [if_neg ht, Nat.mod_mod_of_dvd _ (Nat.dvd_mul_left _ _)]
theorem vE_deep (sg : Nat → Sg) (l : List Ent) : ∀ k j, vE sg (l.map deepE) k j = vE sg l k j := by
  induction l with
  | nil => intro k j; rfl
  | cons e t ih =>
    intro k j
    rw [List.map_cons]
    cases j with
    | zero =>
      show valS (sg e.1) (digE sg (deepE e) (k / prodE sg (t.map deepE))) = valS (sg e.1) (digE sg e (k / prodE sg t))
      rw [prod_map sg t (g := deepE) (fun _ => rfl)]
      rfl
    | succ j =>
      show vE sg (t.map deepE) (k % prodE sg (t.map deepE)) j = vE sg t (k % prodE sg t) j
      rw [prod_map sg t (g := deepE) (fun _ => rfl), ih]
theorem div_flip {c P k : Nat} (h : k < c * P) : (c * P - 1 - k) / P = c - 1 - k / P ∧ (c * P - 1 - k) % P = P - 1 - k % P := by
  have hP : 0 < P := by
    rcases Nat.eq_zero_or_pos P with q | q
    · subst q; simp at h
    · exact q
  have h1 := Nat.div_add_mod k P
  have h2 := Nat.mod_lt k hP
  have h3 : k / P < c := (Nat.div_lt_iff_lt_mul hP).mpr h
  generalize k / P = q at h1 h3 ⊢
  generalize k % P = r at h1 h2 ⊢
  have h4 : c * P - 1 - k = (P - 1 - r) + P * (c - 1 - q) := by
    have h5 : c = q + 1 + (c - 1 - q) := by omega
    generalize c - 1 - q = d at h5 ⊢
    subst h5
    rw [Nat.add_mul, Nat.add_mul, Nat.one_mul, Nat.mul_comm q P, Nat.mul_comm d P]
    omega
  rw [h4]
  constructor
  · rw [Nat.add_mul_div_left _ _ hP, Nat.div_eq_of_lt (by omega), Nat.zero_add]
  · rw [Nat.add_mul_mod_self_left, Nat.mod_eq_of_lt (by omega)]
theorem vE_flip {sg : Nat → Sg} {l : List Ent} : ∀ {k j : Nat}, k < prodE sg l → vE sg (l.map flipE) k j = vE sg l (prodE sg l - 1 - k) j := by
  induction l with
  | nil => intro k j _; rfl
  | cons e t ih =>
    intro k j hk
    rw [List.map_cons]
    have hk2 : k < cntS (sg e.1) * prodE sg t := hk
    obtain ⟨d1, d2⟩ := div_flip hk2
    have hP : 0 < prodE sg t := by
      rcases Nat.eq_zero_or_pos (prodE sg t) with q | q
      · rw [q] at hk2; simp at hk2
      · exact q
    have h3 : k / prodE sg t < cntS (sg e.1) := (Nat.div_lt_iff_lt_mul hP).mpr hk2
    cases j with
    | zero =>
      show valS (sg e.1) (digE sg (flipE e) (k / prodE sg (t.map flipE))) = valS (sg e.1) (digE sg e ((cntS (sg e.1) * prodE sg t - 1 - k) / prodE sg t))
      rw [prod_map sg t (g := flipE) (fun _ => rfl), d1]
      congr 1
      generalize k / prodE sg t = q at h3
      unfold digE flipE
      cases e.2.1 <;> simp <;> omega
    | succ j =>
      show vE sg (t.map flipE) (k % prodE sg (t.map flipE)) j = vE sg t ((cntS (sg e.1) * prodE sg t - 1 - k) % prodE sg t) j
      rw [prod_map sg t (g := flipE) (fun _ => rfl), d2, ih (Nat.mod_lt _ hP)]
theorem filG_1 {sg : Nat → Sg} {o a k : Nat} {g : Nat → Int64} : filG sg [(o, false, 0)] a k g = vp_updL g a (valS (sg o) k) := by
  funext j
  unfold filG vp_updL
  by_cases h : j = a
  · subst h
    rw [if_pos ⟨Nat.le_refl _, by simp⟩, if_pos rfl, Nat.sub_self]
    show valS (sg o) (digE sg (o, false, 0) (k / 1)) = _
    rw [Nat.div_one]
    rfl
  · rw [if_neg (by simp; omega), if_neg h]
theorem filG_flip {sg : Nat → Sg} {l : List Ent} {a k : Nat} {g : Nat → Int64} (hk : k < prodE sg l) : filG sg (l.map flipE) a k g = filG sg l a (prodE sg l - 1 - k) g := by
  funext j
  unfold filG
  rw [List.length_map, vE_flip hk]
theorem filG_deep {sg : Nat → Sg} {l : List Ent} {a k : Nat} {g : Nat → Int64} : filG sg (l.map deepE) a k g = filG sg l a k g := by
  funext j
  unfold filG
  rw [List.length_map, vE_deep]
theorem filG_nil {sg : Nat → Sg} {a k : Nat} {g : Nat → Int64} : filG sg [] a k g = g := by
  funext j
  unfold filG
  rw [if_neg (by simp)]
theorem filG_app {sg : Nat → Sg} {l1 l2 : List Ent} {a k : Nat} {g : Nat → Int64} (hne : l1 ≠ []) : filG sg (l1 ++ l2) a (k % (prodE sg l1 * prodE sg l2)) g = filG sg l1 a (k / prodE sg l2 % prodE sg l1) (filG sg l2 (a + l1.length) (k % prodE sg l2) g) := by
  funext j
  unfold filG
  rw [List.length_append]
  by_cases h1 : a ≤ j ∧ j < a + l1.length
  · rw [if_pos ⟨h1.1, by omega⟩, if_pos h1, vE_app, if_pos (by omega), Nat.mul_comm, Nat.mod_mul_right_div_self]
  · rw [if_neg h1]
    by_cases h2 : a + l1.length ≤ j ∧ j < a + l1.length + l2.length
    · rw [if_pos ⟨by omega, by omega⟩, if_pos h2, vE_app, if_neg (by omega), if_neg hne, Nat.mod_mod_of_dvd _ (Nat.dvd_mul_left _ _)]
      congr 1
      omega
    · rw [if_neg (by omega), if_neg h2]
def FIk (l : Launch) (D : va_G) (B : Nat) (K : Nat → ClassId) (sg : Nat → Sg) (E : Nat → List Ent) (ra : Nat → Nat) (fi : St) (i : Nat) : Prop :=
  ∀ (f : St) (hh ha a k : Nat) (h : Nat → Int64), Imm fi f → fi ha = none → f hh = some (.inr (2, [.ref ha])) → hh ≠ ha → f ha = some (.inl (K 1, 8, .inr (.inl h))) → a + (E i).length ≤ 8 → k < prodE sg (E i) → k < 9223372036854775808 →
    (((∃ fs, fi (ra i) = some (.inr (5, fs))) ∨ ∃ fs, fi (ra i) = some (.inr (4, fs))) → Kc l D B K yX7_fill cX7_fill 5 none (i + 2) 0 0 [.ref (ra i), .ref hh, .int (nI a), .long (lN k)] f (Qv_ D B (fun f9 => f9 = va_up f ha (some (.inl (K 1, 8, .inr (.inl (filG sg (E i) a k h)))))))) ∧
    ((∃ fs, fi (ra i) = some (.inr (0, fs))) → Kc l D B K yX0_fill cX0_fill 5 none (i + 2) 0 0 [.ref (ra i), .ref hh, .int (nI a), .long (lN k)] f (Qv_ D B (fun f9 => f9 = va_up f ha (some (.inl (K 1, 8, .inr (.inl (filG sg (E i) a k h)))))))) ∧
    ((∃ fs, fi (ra i) = some (.inr (1, fs))) → Kc l D B K yX1_fill cX1_fill 11 none (i + 2) 0 0 [.ref (ra i), .ref hh, .int (nI a), .long (lN k)] f (Qv_ D B (fun f9 => f9 = va_up f ha (some (.inl (K 1, 8, .inr (.inl (filG sg (E i) a k h))))))))
section VF
variable {p : Program} {l : Launch} {e : Env} {R : Room} {s : State} {m : MethodId} {args : Array Value} {below : List Frame} {meth : Method} {c : Code} {D : va_G} {B nL : Nat} {Q : State → Prop} {ce sl : Nat} {f : St} {lv : Lv} {pc : Nat} {st : List Value} {cc : ByteArray} {own : String} {K : Nat → ClassId}
theorem v_fill (C : Cx p s m args c cc nL own D B K) {sg : Nat → Sg} {E : Nat → List Ent} {ra : Nat → Nat} {kd : Nat → Int32} {fi : St} {i index hh ha a k9 : Nat} {h : Nat → Int64} {rest : List Value} (hd : decode cc pc = .ok (.invokevirtual index, 3)) (hT : RTi K sg E ra kd fi i) (hP : FIk l D B K sg E ra fi i) (hI : Imm fi f) (hn : fi ha = none) (hH : f hh = some (.inr (2, [.ref ha]))) (hne : hh ≠ ha) (hA : f ha = some (.inl (K 1, 8, .inr (.inl h)))) (hw9 : a + (E i).length ≤ 8) (hk : k9 < prodE sg (E i)) (hk2 : k9 < 9223372036854775808)
    (g1 : Cond.methodLink own index xR_fill ∈ GT) (hR : RN R (i + 2 + 1)) (hst : st = [Value.long (lN k9), .int (nI a), .ref hh, .ref (ra i)] ++ rest) (hrest : (rest.map fun v => v.category).sum ≤ 8) (hf : ce ≤ R.cells ∧ sl ≤ R.slots)
    (k : V p l e R s m args below meth c D B nL Q ce sl (va_up f ha (some (.inl (K 1, 8, .inr (.inl (filG sg (E i) a k9 h)))))) lv (pc + 3) rest) : V p l e R s m args below meth c D B nL Q ce sl f lv pc st := by
  obtain ⟨h7, h0, h1⟩ := hP f hh ha a k9 h hI hn hH hne hA hw9 hk hk2
  have hst2 : st = ([Value.ref hh, .int (nI a), .long (lN k9)] : List Value).reverse ++ .ref (ra i) :: rest := hst
  rcases hT with ⟨⟨fst, lst, sp, q1, _⟩ | ⟨ar, fs, q1, _⟩, hE⟩ | ⟨j, _, q1, _, hE⟩ | ⟨js, pa, g, _, _, q1, _⟩
  · exact v_cv (r_A (x := xR_fill) (owner := RX5) C (h7 (Or.inl ⟨_, q1⟩)) hd (hI _ _ q1) rfl g1 g_sm_X5_X5_fill g_se_X6_X5_fill_66fc_yX7_fill g_im_yX7_fill g_in_X7 g_cd_yX7_fill (by decide +kernel) hR (by decide) hst2 hdn_xR_fill hrest hf) (fun f9 hp => by subst hp; exact k)
  · exact v_cv (r_A (x := xR_fill) (owner := RX5) C (h7 (Or.inr ⟨_, q1⟩)) hd (hI _ _ q1) rfl g1 g_sm_X5_X5_fill g_se_X4_X5_fill_66fc_yX7_fill g_im_yX7_fill g_in_X7 g_cd_yX7_fill (by decide +kernel) hR (by decide) hst2 hdn_xR_fill hrest hf) (fun f9 hp => by subst hp; exact k)
  · exact v_cv (r_A (x := xR_fill) (owner := RX5) C (h0 ⟨_, q1⟩) hd (hI _ _ q1) rfl g1 g_sm_X5_X5_fill g_se_X0_X5_fill_66fc_yX0_fill g_im_yX0_fill g_in_X0 g_cd_yX0_fill (by decide +kernel) hR (by decide) hst2 hdn_xR_fill hrest hf) (fun f9 hp => by subst hp; exact k)
  · exact v_cv (r_A (x := xR_fill) (owner := RX5) C (h1 ⟨_, q1⟩) hd (hI _ _ q1) rfl g1 g_sm_X5_X5_fill g_se_X1_X5_fill_66fc_yX1_fill g_im_yX1_fill g_in_X1 g_cd_yX1_fill (by decide +kernel) hR (by decide) hst2 hdn_xR_fill hrest hf) (fun f9 hp => by subst hp; exact k)
end VF
