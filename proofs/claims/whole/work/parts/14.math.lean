/-! what a single range is, what a row of singles is; sizes and places as natural numbers, made long by sat -/
abbrev Sg : Type := Int32 × Int64 × Int64 × Int32
abbrev Ent : Type := Nat × Bool × Nat
def sat (n : Nat) : Int64 := if n < 9223372036854775808 then lN n else -1
theorem sat_lt {n : Nat} (h : n < 9223372036854775808) : sat n = lN n := if_pos h
theorem sat_ge {n : Nat} (h : 9223372036854775808 ≤ n) : sat n = -1 := if_neg (by omega)
theorem sat_toInt (n : Nat) : (sat n).toInt = if n < 9223372036854775808 then (n : Int) else -1 := by
  by_cases h : n < 9223372036854775808
  · rw [sat_lt h, if_pos h, pk_lT h]
  · rw [sat_ge (by omega), if_neg h]; rfl
theorem sat_m1 (n : Nat) : sat n = -1 ↔ 9223372036854775808 ≤ n := by
  constructor
  · intro h
    have h2 := congrArg Int64.toInt h
    rw [sat_toInt] at h2
    by_cases h3 : n < 9223372036854775808
    · rw [if_pos h3] at h2
      have e : (-1 : Int64).toInt = -1 := rfl
      omega
    · omega
  · exact sat_ge
theorem sat_0 (n : Nat) : sat n = 0 ↔ n = 0 := by
  constructor
  · intro h
    have h2 := congrArg Int64.toInt h
    rw [sat_toInt] at h2
    have e : (0 : Int64).toInt = 0 := rfl
    by_cases h3 : n < 9223372036854775808
    · rw [if_pos h3] at h2; omega
    · rw [if_neg h3] at h2; omega
  · intro h; subst h; rfl
theorem sat_n2 (n : Nat) : ¬ sat n = -2 := by
  intro h
  have h2 := congrArg Int64.toInt h
  rw [sat_toInt] at h2
  have e : (-2 : Int64).toInt = -2 := rfl
  by_cases h3 : n < 9223372036854775808
  · rw [if_pos h3] at h2; omega
  · rw [if_neg h3] at h2; omega
theorem tm_sat (a b : Nat) : tmC (sat a) (sat b) = sat (a * b) := by
  unfold tmC
  by_cases ha : a = 0
  · subst ha; rw [if_pos ((sat_0 0).mpr rfl), Nat.zero_mul]; rfl
  · rw [if_neg (fun h => ha ((sat_0 a).mp h))]
    by_cases hb : b = 0
    · subst hb; rw [if_pos ((sat_0 0).mpr rfl), Nat.mul_zero]; rfl
    · rw [if_neg (fun h => hb ((sat_0 b).mp h))]
      have ha1 : a ≤ a * b := Nat.le_mul_of_pos_right a (by omega)
      have hb1 : b ≤ a * b := Nat.le_mul_of_pos_left b (by omega)
      by_cases h1 : a < 9223372036854775808
      · rw [if_neg (fun h => absurd ((sat_m1 a).mp h) (by omega))]
        by_cases h2 : b < 9223372036854775808
        · rw [if_neg (fun h => absurd ((sat_m1 b).mp h) (by omega))]
          rw [sat_lt h1, sat_lt h2]
          have e : (9223372036854775807 : Int64) = lN 9223372036854775807 := rfl
          rw [e, pk_lDiv (by omega) (by omega) h2]
          have hd : 9223372036854775807 / b < 9223372036854775808 := Nat.lt_of_le_of_lt (Nat.div_le_self _ _) (by omega)
          by_cases h3 : a ≤ 9223372036854775807 / b
          · rw [if_pos ((pk_lLE h1 hd).mpr h3), lN_mul]
            have h4 : a * b ≤ 9223372036854775807 := (Nat.le_div_iff_mul_le (by omega)).mp h3
            rw [sat_lt (by omega)]
          · rw [if_neg (fun h => h3 ((pk_lLE h1 hd).mp h))]
            have h4 : ¬ a * b ≤ 9223372036854775807 := fun h => h3 ((Nat.le_div_iff_mul_le (by omega)).mpr h)
            rw [sat_ge (by omega)]
        · rw [if_pos (sat_ge (by omega)), sat_ge (by omega)]
      · rw [if_pos (sat_ge (by omega)), sat_ge (by omega)]
theorem tmM_eq (a b : Int64) : tmM a b = tmC a b := rfl
theorem pl_sat (a b : Nat) : plC (sat a) (sat b) = sat (a + b) := by
  unfold plC
  by_cases h1 : a < 9223372036854775808
  · rw [if_neg (fun h => absurd ((sat_m1 a).mp h) (by omega))]
    by_cases h2 : b < 9223372036854775808
    · rw [if_neg (fun h => absurd ((sat_m1 b).mp h) (by omega))]
      rw [sat_lt h1, sat_lt h2]
      have e : (9223372036854775807 : Int64) = lN 9223372036854775807 := rfl
      rw [e, lN_sub (by omega), lN_add]
      by_cases h3 : a ≤ 9223372036854775807 - b
      · rw [if_pos ((pk_lLE h1 (by omega)).mpr h3), sat_lt (by omega)]
      · rw [if_neg (fun h => h3 ((pk_lLE h1 (by omega)).mp h)), sat_ge (by omega)]
    · rw [if_pos (sat_ge (by omega)), sat_ge (by omega)]
  · rw [if_pos (sat_ge (by omega)), sat_ge (by omega)]
def cntS (q : Sg) : Nat :=
  if q.1 = 2 then (if q.2.1.toInt ≤ q.2.2.1.toInt then (q.2.2.1.toInt - q.2.1.toInt + 1).toNat else (q.2.2.2.toInt - q.2.1.toInt + q.2.2.1.toInt + 1).toNat)
  else if 0 < q.2.2.2.toInt then (if q.2.2.1.toInt < q.2.1.toInt then 0 else ((q.2.2.1.toInt - q.2.1.toInt) / q.2.2.2.toInt).toNat + 1)
  else (if q.2.1.toInt < q.2.2.1.toInt then 0 else ((q.2.1.toInt - q.2.2.1.toInt) / (-q.2.2.2.toInt)).toNat + 1)
def posS (q : Sg) (v : Int64) : Option Nat :=
  if q.1 = 2 then (if 0 ≤ v.toInt ∧ v.toInt < q.2.2.2.toInt ∧ ((q.2.1.toInt ≤ q.2.2.1.toInt → q.2.1.toInt ≤ v.toInt ∧ v.toInt ≤ q.2.2.1.toInt) ∧ (¬ q.2.1.toInt ≤ q.2.2.1.toInt → q.2.1.toInt ≤ v.toInt ∨ v.toInt ≤ q.2.2.1.toInt)) then some (if q.2.1.toInt ≤ v.toInt then (v.toInt - q.2.1.toInt).toNat else (v.toInt + q.2.2.2.toInt - q.2.1.toInt).toNat) else none)
  else if 0 < q.2.2.2.toInt then (if q.2.1.toInt ≤ v.toInt ∧ v.toInt ≤ q.2.2.1.toInt ∧ (v.toInt - q.2.1.toInt) % q.2.2.2.toInt = 0 then some ((v.toInt - q.2.1.toInt) / q.2.2.2.toInt).toNat else none)
  else (if q.2.2.1.toInt ≤ v.toInt ∧ v.toInt ≤ q.2.1.toInt ∧ (q.2.1.toInt - v.toInt) % (-q.2.2.2.toInt) = 0 then some ((q.2.1.toInt - v.toInt) / (-q.2.2.2.toInt)).toNat else none)
def valS (q : Sg) (k : Nat) : Int64 :=
  if q.1 = 2 then Int64.ofInt ((q.2.1.toInt + k) % q.2.2.2.toInt) else Int64.ofInt (q.2.1.toInt + k * q.2.2.2.toInt)
def okS (q : Sg) : Prop :=
  (q.1 = 2 → 1 ≤ q.2.2.2.toInt ∧ q.2.2.2.toInt ≤ 20 ∧ 0 ≤ q.2.1.toInt ∧ q.2.1.toInt < q.2.2.2.toInt ∧ 0 ≤ q.2.2.1.toInt ∧ q.2.2.1.toInt < q.2.2.2.toInt) ∧ (¬ q.1 = 2 → q.2.2.2.toInt ≠ 0 ∧ -1000000 ≤ q.2.2.2.toInt ∧ q.2.2.2.toInt ≤ 1000000)
theorem pos_lt {q : Sg} {v : Int64} {k : Nat} (hq : okS q) (h : posS q v = some k) : k < cntS q := by
  unfold posS at h
  unfold cntS
  by_cases h2 : q.1 = 2
  · rw [if_pos h2] at h ⊢
    obtain ⟨b1, b2, b3, b4, b5, b6⟩ := hq.1 h2
    split at h
    · rename_i h3
      obtain ⟨c1, c2, c3, c4⟩ := h3
      have h := Option.some.inj h
      split
      · rename_i h4
        have c5 := c3 h4
        rw [if_pos c5.1] at h
        omega
      · rename_i h4
        have c5 := c4 h4
        split at h <;> omega
    · cases h
  · rw [if_neg h2] at h ⊢
    obtain ⟨b1, b2, b3⟩ := hq.2 h2
    by_cases hs : 0 < q.2.2.2.toInt
    · rw [if_pos hs] at h ⊢
      split at h
      · rename_i h3
        have h := Option.some.inj h
        rw [if_neg (by omega)]
        have h5 : (v.toInt - q.2.1.toInt) / q.2.2.2.toInt ≤ (q.2.2.1.toInt - q.2.1.toInt) / q.2.2.2.toInt := Int.ediv_le_ediv hs (by omega)
        omega
      · cases h
    · rw [if_neg hs] at h ⊢
      split at h
      · rename_i h3
        have h := Option.some.inj h
        rw [if_neg (by omega)]
        have h5 : (q.2.1.toInt - v.toInt) / (-q.2.2.2.toInt) ≤ (q.2.1.toInt - q.2.2.1.toInt) / (-q.2.2.2.toInt) := Int.ediv_le_ediv (by omega) (by omega)
        omega
      · cases h
/-! rows of singles -/
def flipE (e : Ent) : Ent := (e.1, !e.2.1, e.2.2 + 1)
def deepE (e : Ent) : Ent := (e.1, e.2.1, e.2.2 + 1)
def digE (sg : Nat → Sg) (e : Ent) (k : Nat) : Nat := if e.2.1 then cntS (sg e.1) - 1 - k else k
def missE (sg : Nat → Sg) (h : Nat → Int64) : List Ent → Nat → Option (Nat × Ent)
  | [], _ => none
  | e :: t, j => if (posS (sg e.1) (h j)).isSome then missE sg h t (j + 1) else some (j, e)
def idxE (sg : Nat → Sg) (h : Nat → Int64) : List Ent → Nat → Nat → Nat
  | [], _, acc => acc
  | e :: t, j, acc => idxE sg h t (j + 1) (acc * cntS (sg e.1) + digE sg e ((posS (sg e.1) (h j)).getD 0))
def prodE (sg : Nat → Sg) : List Ent → Nat
  | [] => 1
  | e :: t => cntS (sg e.1) * prodE sg t
theorem prod_app (sg : Nat → Sg) (l1 l2 : List Ent) : prodE sg (l1 ++ l2) = prodE sg l1 * prodE sg l2 := by
  induction l1 with
  | nil => simp [prodE]
  | cons e t ih => simp [prodE, ih, Nat.mul_assoc]
theorem prod_map (sg : Nat → Sg) (l : List Ent) {g : Ent → Ent} (hg : ∀ e, (g e).1 = e.1) : prodE sg (l.map g) = prodE sg l := by
  induction l with
  | nil => rfl
  | cons e t ih => simp [prodE, ih, hg]
theorem idx_acc (sg : Nat → Sg) (h : Nat → Int64) (l : List Ent) : ∀ j acc, idxE sg h l j acc = acc * prodE sg l + idxE sg h l j 0 := by
  induction l with
  | nil => intro j acc; simp [idxE, prodE]
  | cons e t ih =>
    intro j acc
    unfold idxE prodE
    rw [ih, ih (j + 1) (0 * _ + _)]
    rw [Nat.zero_mul, Nat.zero_add, Nat.add_mul, Nat.mul_assoc, Nat.add_assoc]
theorem idx_app (sg : Nat → Sg) (h : Nat → Int64) (l1 l2 : List Ent) : ∀ j acc, idxE sg h (l1 ++ l2) j acc = idxE sg h l2 (j + l1.length) (idxE sg h l1 j acc) := by
  induction l1 with
  | nil => intro j acc; simp [idxE]
  | cons e t ih =>
    intro j acc
    show idxE sg h (t ++ l2) (j + 1) _ = _
    rw [ih]
    simp [idxE, Nat.add_assoc, Nat.add_comm 1]
theorem miss_app (sg : Nat → Sg) (h : Nat → Int64) (l1 l2 : List Ent) : ∀ j, missE sg h (l1 ++ l2) j = match missE sg h l1 j with | some x => some x | none => missE sg h l2 (j + l1.length) := by
  induction l1 with
  | nil => intro j; simp [missE]
  | cons e t ih =>
    intro j
    by_cases hp : (posS (sg e.1) (h j)).isSome
    · simp only [List.cons_append, missE, if_pos hp, ih, List.length_cons]
      rw [show j + 1 + t.length = j + (t.length + 1) by omega]
    · simp only [List.cons_append, missE, if_neg hp]
theorem miss_map (sg : Nat → Sg) (h : Nat → Int64) (l : List Ent) {g : Ent → Ent} (hg : ∀ e, (g e).1 = e.1) : ∀ j, missE sg h (l.map g) j = (missE sg h l j).map (fun q => (q.1, g q.2)) := by
  induction l with
  | nil => intro j; rfl
  | cons e t ih =>
    intro j
    rw [List.map_cons]
    unfold missE
    rw [hg]
    by_cases hp : (posS (sg e.1) (h j)).isSome
    · rw [if_pos hp, if_pos hp, ih]
    · rw [if_neg hp, if_neg hp]; rfl
theorem idx_deep (sg : Nat → Sg) (h : Nat → Int64) (l : List Ent) : ∀ j acc, idxE sg h (l.map deepE) j acc = idxE sg h l j acc := by
  induction l with
  | nil => intro j acc; rfl
  | cons e t ih =>
    intro j acc
    rw [List.map_cons]
    unfold idxE
    rw [ih]
    rfl
theorem dig_lt {sg : Nat → Sg} {e : Ent} {k : Nat} (h : k < cntS (sg e.1)) : digE sg e k < cntS (sg e.1) := by
  unfold digE
  split <;> omega
theorem idx_lt {sg : Nat → Sg} {h : Nat → Int64} (hok : ∀ o, okS (sg o)) {l : List Ent} : ∀ {j : Nat}, missE sg h l j = none → idxE sg h l j 0 < prodE sg l := by
  induction l with
  | nil => intro j _; simp [idxE, prodE]
  | cons e t ih =>
    intro j hm
    unfold missE at hm
    by_cases hp : (posS (sg e.1) (h j)).isSome
    · rw [if_pos hp] at hm
      have h1 := ih hm
      unfold idxE prodE
      rw [idx_acc]
      obtain ⟨k, hk⟩ := Option.isSome_iff_exists.mp hp
      have h2 : digE sg e ((posS (sg e.1) (h j)).getD 0) < cntS (sg e.1) := by
        rw [hk]
        exact dig_lt (pos_lt (hok _) hk)
      rw [Nat.zero_mul, Nat.zero_add]
      have h3 : (digE sg e ((posS (sg e.1) (h j)).getD 0) + 1) * prodE sg t ≤ cntS (sg e.1) * prodE sg t := Nat.mul_le_mul_right _ h2
      rw [Nat.add_mul] at h3
      omega
    · rw [if_neg hp] at hm; cases hm
theorem idx_flip {sg : Nat → Sg} {h : Nat → Int64} (hok : ∀ o, okS (sg o)) {l : List Ent} : ∀ {j : Nat}, missE sg h l j = none → idxE sg h (l.map flipE) j 0 + idxE sg h l j 0 + 1 = prodE sg l := by
  induction l with
  | nil => intro j _; simp [idxE, prodE]
  | cons e t ih =>
    intro j hm
    unfold missE at hm
    by_cases hp : (posS (sg e.1) (h j)).isSome
    · rw [if_pos hp] at hm
      have h1 := ih hm
      rw [List.map_cons]
      unfold idxE prodE
      rw [idx_acc sg h t, idx_acc sg h (t.map flipE), prod_map sg t (g := flipE) (fun _ => rfl)]
      obtain ⟨k, hk⟩ := Option.isSome_iff_exists.mp hp
      have hlt := pos_lt (hok _) hk
      have e1 : (flipE e).1 = e.1 := rfl
      rw [e1, hk]
      have h2 : digE sg (flipE e) k + digE sg e k + 1 = cntS (sg e.1) := by
        unfold digE flipE
        cases e.2.1 <;> simp <;> omega
      show (0 * cntS (sg e.1) + digE sg (flipE e) k) * prodE sg t + idxE sg h (t.map flipE) (j + 1) 0 + ((0 * cntS (sg e.1) + digE sg e k) * prodE sg t + idxE sg h t (j + 1) 0) + 1 = _
      rw [← h2, Nat.zero_mul, Nat.zero_add, Nat.zero_add, Nat.add_mul, Nat.add_mul, Nat.one_mul]
      omega
    · rw [if_neg hp] at hm; cases hm
theorem prod_pos {sg : Nat → Sg} {h : Nat → Int64} (hok : ∀ o, okS (sg o)) {l : List Ent} {j : Nat} (hm : missE sg h l j = none) : 0 < prodE sg l := Nat.lt_of_le_of_lt (Nat.zero_le _) (idx_lt hok hm)
