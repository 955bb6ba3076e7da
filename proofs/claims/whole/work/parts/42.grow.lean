/-! the program: what a new range makes of its cells -/
theorem val_toInt {kd sp : Int32} {a b : Int64} {Q : Nat} (h2 : ¬ kd = 2) (h1 : -9223372036854775808 ≤ a.toInt + Q * sp.toInt) (h3 : a.toInt + Q * sp.toInt < 9223372036854775808) : (valS (kd, a, b, sp) Q).toInt = a.toInt + Q * sp.toInt := by
  unfold valS
  simp only [if_neg h2]
  rw [Int64.toInt_ofInt, show Int64.size = 18446744073709551616 from rfl]
  exact Int.bmod_eq_of_le (by omega) (by omega)
theorem nx_lN {Q : Nat} (h : Q < 18446744073709551616) : (if lN Q < (0 : Int64) then (-1 : Int64) else if lN Q = (9223372036854775807 : Int64) then (-1 : Int64) else lN Q + 1) = sat (Q + 1) := by
  by_cases h1 : Q < 9223372036854775808
  · rw [← sat_lt h1]
    exact nx_sat Q
  · rw [if_pos, sat_ge (by omega)]
    rw [l_lt]
    have e4 := uN_int (lN Q)
    rw [uN_lN h, if_neg (by omega)] at e4
    have z : (0 : Int64).toInt = 0 := rfl
    omega
theorem pair_if {α β : Type} {P Q : Prop} [Decidable P] [Decidable Q] {x y z : α} {w : β} : (if P then (x, w) else if Q then (y, w) else (z, w)) = ((if P then x else if Q then y else z), w) := by
  by_cases h : P
  · rw [if_pos h, if_pos h]
  · rw [if_neg h, if_neg h]
    by_cases h2 : Q
    · rw [if_pos h2, if_pos h2]
    · rw [if_neg h2, if_neg h2]
theorem row_ok {kd s : Int32} {a b : Int64} (hq : okS (kd, a, b, s)) (h2 : ¬ kd = 2) : (rowC a b s).1 = sat (cntS (kd, a, b, s)) ∧ rowOK (kd, a, b, s) a (rowC a b s).2 s := by
  obtain ⟨b1, b2, b3⟩ := hq.2 h2
  simp only at b1 b2 b3
  have ha1 := a.toInt_lt
  have ha2 := a.le_toInt
  have hb1 := b.toInt_lt
  have hb2 := b.le_toInt
  unfold rowC
  by_cases hs : s ≤ 0
  · have hs2 := up_neg hs
    rw [if_pos hs]
    by_cases hab : b ≤ a
    · rw [if_pos hab]
      rw [l_le] at hab
      have hst := st_dn hq h2 hs2
      simp only at hst
      have hns : (-s).toInt64.toInt = -s.toInt := by rw [i2l_toInt, ineg_toInt b2 b3]
      have hQ := quC_eq (d := a - b) (s := (-s).toInt64) (by omega) (by omega)
      have hcnt := cnt_dn hq h2 hs2 (show ¬ a.toInt < b.toInt by omega)
      simp only at hcnt
      rw [hst.2.2, ← hns] at hcnt
      have hdm := Nat.div_add_mod (uN (a - b)) (-s).toInt64.toInt.toNat
      have hdist := uN_dist hab
      have hlt : uN (a - b) / (-s).toInt64.toInt.toNat ≤ uN (a - b) := Nat.div_le_self _ _
      have hub := uN_lt (a - b)
      rw [hQ, pair_if]
      generalize uN (a - b) / (-s).toInt64.toInt.toNat = Q at *
      refine ⟨by rw [hcnt]; exact nx_lN (by omega), h2, rfl, rfl, fun _ => ?_⟩
      have hmul : ((-s).toInt64.toInt.toNat * Q : Nat) ≤ uN (a - b) := by omega
      have hmulI : (-s.toInt) * (Q : Int) ≤ a.toInt - b.toInt := by
        rw [← hdist, ← hns]
        have e9 : (((-s).toInt64.toInt.toNat * Q : Nat) : Int) = (-s).toInt64.toInt * (Q : Int) := by
          rw [Int.natCast_mul, Int.toNat_of_nonneg (by omega)]
        omega
      have hpos : 0 ≤ (-s.toInt) * (Q : Int) := Int.mul_nonneg (by omega) (by omega)
      have hsw : (Q : Int) * s.toInt = -((-s.toInt) * (Q : Int)) := by rw [Int.neg_mul, Int.neg_neg, Int.mul_comm]
      show (a + lN Q * s.toInt64).toInt = a.toInt + ((cntS (kd, a, b, s) : Int) - 1) * s.toInt
      rw [na2 (kd := kd) (b := b) h2, val_toInt h2 (by omega) (by omega), hcnt]
      rw [show (((Q + 1 : Nat) : Int) - 1) = (Q : Int) by omega]
    · rw [if_neg hab]
      rw [l_le] at hab
      have hc0 : cntS (kd, a, b, s) = 0 := by
        unfold cntS
        simp only [if_neg h2, if_neg hs2]
        rw [if_pos (by omega)]
      exact ⟨by rw [hc0]; rfl, h2, rfl, rfl, fun h => by omega⟩
  · have hs2 := up_pos hs
    rw [if_neg hs]
    by_cases hab : a ≤ b
    · rw [if_pos hab]
      rw [l_le] at hab
      have hns : s.toInt64.toInt = s.toInt := i2l_toInt s
      have hQ := quC_eq (d := b - a) (s := s.toInt64) (by omega) (by omega)
      have hcnt := cnt_up hq h2 hs2 (show ¬ b.toInt < a.toInt by omega)
      simp only at hcnt
      have hdm := Nat.div_add_mod (uN (b - a)) s.toInt64.toInt.toNat
      have hdist := uN_dist hab
      have hlt : uN (b - a) / s.toInt64.toInt.toNat ≤ uN (b - a) := Nat.div_le_self _ _
      have hub := uN_lt (b - a)
      rw [hQ, pair_if]
      generalize uN (b - a) / s.toInt64.toInt.toNat = Q at *
      refine ⟨by rw [hcnt]; exact nx_lN (by omega), h2, rfl, rfl, fun _ => ?_⟩
      have hmul : (s.toInt64.toInt.toNat * Q : Nat) ≤ uN (b - a) := by omega
      have hmulI : s.toInt * (Q : Int) ≤ b.toInt - a.toInt := by
        rw [← hdist, ← hns]
        have e9 : ((s.toInt64.toInt.toNat * Q : Nat) : Int) = s.toInt64.toInt * (Q : Int) := by
          rw [Int.natCast_mul, Int.toNat_of_nonneg (by omega)]
        omega
      have hpos : 0 ≤ s.toInt * (Q : Int) := Int.mul_nonneg (by omega) (by omega)
      have hsw : (Q : Int) * s.toInt = s.toInt * (Q : Int) := Int.mul_comm _ _
      show (a + lN Q * s.toInt64).toInt = a.toInt + ((cntS (kd, a, b, s) : Int) - 1) * s.toInt
      rw [na2 (kd := kd) (b := b) h2, val_toInt h2 (by omega) (by omega), hcnt]
      rw [show (((Q + 1 : Nat) : Int) - 1) = (Q : Int) by omega]
    · rw [if_neg hab]
      rw [l_le] at hab
      have hc0 : cntS (kd, a, b, s) = 0 := by
        unfold cntS
        simp only [if_neg h2, if_pos hs2]
        rw [if_pos (by omega)]
      exact ⟨by rw [hc0]; rfl, h2, rfl, rfl, fun h => by omega⟩
theorem nam_ok {n9 a b : Int32} (hq : okS (2, a.toInt64, b.toInt64, n9)) : (nmO n9 a b).toInt64 = sat (cntS (2, a.toInt64, b.toInt64, n9)) ∧ namesOK (2, a.toInt64, b.toInt64, n9) n9 a := by
  obtain ⟨b1, b2, b3, b4, b5, b6⟩ := hq.1 rfl
  obtain ⟨n1, n2, n3⟩ := cnt_nm hq rfl
  simp only [i2l_toInt] at b1 b2 b3 b4 b5 b6 n1
  refine ⟨l_eq_sat ?_ (by omega), rfl, rfl, (i2l_toInt a).symm⟩
  rw [i2l_toInt, n1]
  unfold nmO
  have e1 : (b - a).toInt = b.toInt - a.toInt := by
    rw [Int32.toInt_sub]
    exact Int.bmod_eq_of_le (by omega) (by omega)
  have e3 : (1 : Int32).toInt = 1 := rfl
  by_cases h : b < a
  · rw [if_pos h]
    rw [Int32.lt_iff_toInt_lt] at h
    rw [if_neg (by omega)]
    have e2 : (b - a + n9).toInt = b.toInt - a.toInt + n9.toInt := by
      rw [Int32.toInt_add, e1]
      exact Int.bmod_eq_of_le (by omega) (by omega)
    rw [Int32.toInt_add, e2, e3]
    rw [Int.bmod_eq_of_le (by omega) (by omega)]
    omega
  · rw [if_neg h]
    rw [Int32.lt_iff_toInt_lt] at h
    rw [if_pos (by omega), Int32.toInt_add, e1, e3]
    exact Int.bmod_eq_of_le (by omega) (by omega)
theorem prod_congr {sg sg2 : Nat → Sg} {l : List Ent} (h : ∀ e ∈ l, sg2 e.1 = sg e.1) : prodE sg2 l = prodE sg l := by
  induction l with
  | nil => rfl
  | cons a t ih =>
    rw [prodE_c, prodE_c, h a List.mem_cons_self, ih (fun e he => h e (List.mem_cons_of_mem _ he))]
def Ext (f f1 : St) : Prop := ∀ a x, f a = some x → f1 a = some x
theorem RS.grow {sg sg2 : Nat → Sg} {ra ra2 : Nat → Nat} {kd kd2 : Nat → Int32} {fi fi2 : St} {o : Nat} (h : RS sg ra kd fi o) (hs : sg2 o = sg o) (hr : ra2 o = ra o) (hk : kd2 o = kd o) (hf : Ext fi fi2) : RS sg2 ra2 kd2 fi2 o := by
  unfold RS
  rw [hs, hr, hk]
  rcases h with ⟨a, b, c, h1, h2⟩ | ⟨a, b, h1, h2⟩
  · exact Or.inl ⟨a, b, c, hf _ _ h1, h2⟩
  · exact Or.inr ⟨a, b, hf _ _ h1, h2⟩
theorem fm_congr {E E2 : Nat → List Ent} {js : List Nat} (h : ∀ j ∈ js, E2 j = E j) : js.flatMap E2 = js.flatMap E := by
  induction js with
  | nil => rfl
  | cons a t ih => rw [List.flatMap_cons, List.flatMap_cons, h a List.mem_cons_self, ih (fun j hj => h j (List.mem_cons_of_mem _ hj))]
theorem rt_grow {K : Nat → ClassId} {sg sg2 : Nat → Sg} {E E2 : Nat → List Ent} {ra ra2 : Nat → Nat} {kd kd2 : Nat → Int32} {fi fi2 : St} {n : Nat} (hT : RT K sg E ra kd fi n) (hok : ∀ o, okS (sg2 o)) (hs : ∀ o, o < n → sg2 o = sg o) (hE : ∀ i, i < n → E2 i = E i) (hr : ∀ i, i < n → ra2 i = ra i) (hk : ∀ i, i < n → kd2 i = kd i) (hf : Ext fi fi2)
    (hnew : RTi K sg2 E2 ra2 kd2 fi2 n ∧ (E2 n).length ≤ 8 ∧ 1 ≤ (E2 n).length ∧ ∀ e ∈ E2 n, e.1 ≤ n ∧ RS sg2 ra2 kd2 fi2 e.1) : RT K sg2 E2 ra2 kd2 fi2 (n + 1) := by
  refine ⟨hok, fun i hi => ?_⟩
  by_cases hin : i = n
  · subst hin; exact hnew
  · have hi2 : i < n := by omega
    obtain ⟨h1, h2, h3, h4⟩ := hT.2 i hi2
    have hp : ∀ j, j < n → prodE sg2 (E2 j) = prodE sg (E j) := fun j hj => by
      rw [hE j hj]
      exact prod_congr (fun e he => hs _ (by have := ((hT.2 j hj).2.2.2 e he).1; omega))
    refine ⟨?_, by rw [hE i hi2]; exact h2, by rw [hE i hi2]; exact h3, fun e he => ?_⟩
    · rcases h1 with ⟨q1, q2⟩ | ⟨j, q0, q1, q2, q3⟩ | ⟨js, pa, g, q0, q1, q2, q3, q4, q5⟩
      · exact Or.inl ⟨q1.grow (hs i hi2) (hr i hi2) (hk i hi2) hf, by rw [hE i hi2]; exact q2⟩
      · refine Or.inr (Or.inl ⟨j, q0, ?_, ?_, ?_⟩)
        · rw [hr i hi2, hk i hi2, hp j (by omega), hE j (by omega), hr j (by omega)]
          exact hf _ _ q1
        · rw [hp j (by omega)]; exact q2
        · rw [hE i hi2, hE j (by omega)]; exact q3
      · refine Or.inr (Or.inr ⟨js, pa, g, q0, q1, ?_, hf _ _ q3, fun t j hj => ?_, ?_⟩)
        · rw [hr i hi2, hk i hi2, hp i hi2, hE i hi2]
          exact hf _ _ q2
        · have hjm : j ∈ js := List.mem_of_getElem? hj
          have := q0 j hjm
          rw [hr j (by omega)]
          exact q4 t j hj
        · rw [hE i hi2, fm_congr (fun j hj => hE j (by have := q0 j hj; omega))]
          exact q5
    · rw [hE i hi2] at he
      obtain ⟨e1, e2⟩ := h4 e he
      exact ⟨e1, e2.grow (hs _ (by omega)) (hr _ (by omega)) (hk _ (by omega)) hf⟩
theorem mk_grow {K : Nat → ClassId} {sg : Nat → Sg} {E : Nat → List Ent} {ra ra2 : Nat → Nat} {kd kd2 : Nat → Int32} {fi fi2 : St} {i : Nat} (h : MKi K ra kd fi i) (hT : RTi K sg E ra kd fi i) (hr : ra2 i = ra i) (hk : kd2 i = kd i) (hf : Ext fi fi2) : MKi K ra2 kd2 fi2 i := by
  obtain ⟨m5, m4, m0, m1⟩ := h
  unfold MKi
  rw [hr, hk]
  have back : ∀ x, fi2 (ra i) = some x → fi (ra i) = some x := fun x hx => by
    obtain ⟨ci, fs, _, hc, _⟩ := RT_hdr hT
    have := hf _ _ hc
    rw [this] at hx
    rw [hc]; exact hx
  refine ⟨fun ⟨fs, h9⟩ => m5 ⟨fs, back _ h9⟩, fun ⟨fs, h9⟩ => m4 ⟨fs, back _ h9⟩, fun ⟨fs, h9⟩ => m0 ⟨fs, back _ h9⟩, fun x0 x1 x2 x3 pa len g h9 h8 => ?_⟩
  have h9 := back _ h9
  rcases hT with ⟨⟨a, b, c, q1, q2⟩ | ⟨a, b, q1, q2⟩, _⟩ | ⟨j, q0, q1, q2, q3⟩ | ⟨js, pa2, g2, q0, q1, q2, q3, q4, q5⟩
  · rw [q1] at h9; cases h9
  · rw [q1] at h9; cases h9
  · rw [q1] at h9; cases h9
  · have h7 := q2
    rw [h9] at h7
    cases h7
    have h6 := hf _ _ q3
    rw [h6] at h8
    cases h8
    exact m1 _ _ _ _ _ _ _ h9 q3
theorem cl_grow {K : Nat → ClassId} {q : Nat → Nat} {fi f fi2 f1 : St} {n na : Nat} {sg sg2 : Nat → Sg} {E E2 : Nat → List Ent} {ra : Nat → Nat} {kd kd2 : Nat → Int32} {t x y z : Int32} {g gb : Nat → Option Nat} {h hs : Nat → Int64} {bs : Nat → Nat} {cl : Nat → Nat → Int32} {b9 : Nat}
    (hC : ClI K q fi f n na sg E ra kd t x y z g gb h hs bs cl) (hx : Ext f f1) (hI2 : Imm fi2 f1) (hfq2 : ∀ j, j < 15 → fi2 (q j) = none) (hT : RT K sg2 E2 (up1 ra n b9) kd2 fi2 (n + 1)) (hMK : ∀ i, i < n + 1 → MKi K (up1 ra n b9) kd2 fi2 i) (hn : n < 40) (hp : ∀ i, i < n → prodE sg2 (E2 i) = prodE sg (E i)) :
    ClI K q fi2 (addF K q f1 n na g b9) (n + 1) na sg2 E2 (up1 ra n b9) kd2 t x y z (va_up g n (some b9)) gb h hs bs cl := by
  obtain ⟨⟨c0, c1, c2, c3, c4, c5, c6, c7, c8, c9, c10⟩, cI, cfq, cT, cn, cg, cna, cb, cM⟩ := hC
  have ne : ∀ i j, i < 15 → j < 15 → i ≠ j → q i ≠ q j := fun i j hi hj hne e => hne (c10 i j hi hj e)
  have go : ∀ j y9, j < 15 → j ≠ 0 → j ≠ 4 → f (q j) = some y9 → addF K q f1 n na g b9 (q j) = some y9 := fun j y9 hj h0 h4 hy => by
    unfold addF
    rw [va_up_ne _ _ (ne j 0 hj (by decide) h0), va_up_ne _ _ (ne j 4 hj (by decide) h4)]
    exact hx _ _ hy
  refine ⟨⟨?_, go 1 _ (by decide) (by decide) (by decide) c1, go 2 _ (by decide) (by decide) (by decide) c2, go 3 _ (by decide) (by decide) (by decide) c3, ?_, go 5 _ (by decide) (by decide) (by decide) c5, go 6 _ (by decide) (by decide) (by decide) c6, go 7 _ (by decide) (by decide) (by decide) c7, go 8 _ (by decide) (by decide) (by decide) c8, fun i hi => go (9 + i) _ (by omega) (by omega) (by omega) (c9 i hi), c10⟩, (hI2.up (hfq2 4 (by decide))).up (hfq2 0 (by decide)), hfq2, hT, by omega, fun i hi => ?_, cna, fun a ha => ?_, hMK⟩
  · unfold addF; rw [va_up_self]
  · unfold addF
    rw [va_up_ne _ _ (ne 4 0 (by decide) (by decide) (by decide)), va_up_self]
  · by_cases e : i = n
    · subst e; rw [va_up_self, up1_self]
    · rw [va_up_ne _ _ e, up1_ne _ _ e]; exact cg i (by omega)
  · obtain ⟨k1, k2, k3⟩ := cb a ha
    refine ⟨?_, by omega, by rw [hp _ k2]; exact k3⟩
    rw [up1_ne _ _ (by omega)]
    exact k1
theorem addF_out {K : Nat → ClassId} {q : Nat → Nat} {f f1 : St} {n na : Nat} {g : Nat → Option Nat} {b9 : Nat} (hx : Ext f f1) : Out q f (addF K q f1 n na g b9) := fun a x hj h => by
  unfold addF
  rw [va_up_ne _ _ (hj 0 (by decide)), va_up_ne _ _ (hj 4 (by decide))]
  exact hx _ _ h
theorem Ext.new {f : St} {b : Nat} {y : Option va_E} (hb : f b = none) : Ext f (va_up f b y) := fun a x h => upn hb h
theorem Ext.tr {f f1 f2 : St} (h1 : Ext f f1) (h2 : Ext f1 f2) : Ext f f2 := fun a x h => h2 a x (h1 a x h)
theorem Imm.both {fi f : St} {b : Nat} {y : Option va_E} (h : Imm fi f) (hb : f b = none) : Imm (va_up fi b y) (va_up f b y) := fun a x hx => by
  by_cases e : a = b
  · subst e; rw [va_up_self] at hx ⊢; exact hx
  · rw [va_up_ne _ _ e] at hx ⊢; exact h a x hx
