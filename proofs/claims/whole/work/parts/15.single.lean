def uN (x : Int64) : Nat := x.toUInt64.toNat
theorem uN_lt (x : Int64) : uN x < 18446744073709551616 := x.toUInt64.toNat_lt
theorem uN_inj {x y : Int64} (h : uN x = uN y) : x = y := congrArg UInt64.toInt64 (UInt64.toNat_inj.mp h)
theorem uN_add (x y : Int64) : uN (x + y) = (uN x + uN y) % 18446744073709551616 := by
  show (x.toUInt64 + y.toUInt64).toNat = _
  exact UInt64.toNat_add _ _
theorem uN_mul (x y : Int64) : uN (x * y) = (uN x * uN y) % 18446744073709551616 := by
  show (x.toUInt64 * y.toUInt64).toNat = _
  exact UInt64.toNat_mul _ _
theorem uN_shl (x : Int64) : uN (x <<< ((1 : Int32).toInt64 &&& 63)) = (2 * uN x) % 18446744073709551616 := by
  have h : (((1 : Int32).toInt64 &&& 63).toBitVec.smod 64).toNat = 1 := by decide
  show (x.toBitVec <<< (((1 : Int32).toInt64 &&& 63).toBitVec.smod 64).toNat).toNat = _
  rw [h, BitVec.toNat_shiftLeft, Nat.shiftLeft_eq, Nat.mul_comm]
  rfl
theorem uN_shr (x : Int64) (s : UInt64) : uN (x.toUInt64 >>> s).toInt64 = uN x / 2 ^ (s.toNat % 64) := by
  show (x.toUInt64 >>> s).toNat = _
  rw [UInt64.toNat_shiftRight, Nat.shiftRight_eq_div_pow]
  rfl
theorem uN_int (x : Int64) : x.toInt = if 2 * uN x < 18446744073709551616 then (uN x : Int) else (uN x : Int) - 18446744073709551616 := BitVec.toInt_eq_toNat_cond _
theorem nat_emod {u w : Nat} {U W : Int} (hU : (u : Int) = U) (hW : (w : Int) = W) : u % w = (U % W).toNat := by
  subst hU; subst hW
  rw [← Int.natCast_emod]
  exact (Int.toNat_natCast _).symm
theorem nat_ediv {u w : Nat} {U W : Int} (hU : (u : Int) = U) (hW : (w : Int) = W) : u / w = (U / W).toNat := by
  subst hU; subst hW
  rw [← Int.natCast_ediv]
  exact (Int.toNat_natCast _).symm
theorem uN_sub (x y : Int64) : uN (x - y) = (uN x + 18446744073709551616 - uN y) % 18446744073709551616 := by
  show (x.toUInt64 - y.toUInt64).toNat = _
  rw [UInt64.toNat_sub]
  have h1 := uN_lt y
  show (2 ^ 64 - uN y + uN x) % 2 ^ 64 = _
  rw [show (2 ^ 64 : Nat) = 18446744073709551616 from rfl]
  rw [show 18446744073709551616 - uN y + uN x = uN x + 18446744073709551616 - uN y by omega]
theorem uN_lN {n : Nat} (h : n < 18446744073709551616) : uN (lN n) = n := by
  show (UInt64.ofNat n).toNat = n
  rw [UInt64.toNat_ofNat']
  exact Nat.mod_eq_of_lt h
theorem lN_uN (x : Int64) : lN (uN x) = x := uN_inj (uN_lN (uN_lt x))
theorem uN_dist {a b : Int64} (h : a.toInt ≤ b.toInt) : (uN (b - a) : Int) = b.toInt - a.toInt := by
  have h1 := uN_lt a
  have h2 := uN_lt b
  have e1 := uN_int a
  have e2 := uN_int b
  rw [uN_sub]
  split at e1 <;> split at e2 <;> omega
theorem l_of_pos {s : Int64} (h : 0 ≤ s.toInt) : s = lN s.toInt.toNat ∧ s.toInt.toNat < 9223372036854775808 := by
  have h1 := uN_lt s
  have e1 := uN_int s
  split at e1
  · have e2 : s.toInt.toNat = uN s := by omega
    rw [e2]
    exact ⟨(lN_uN s).symm, by omega⟩
  · omega
theorem quC_eq {d s : Int64} (h1 : 1 ≤ s.toInt) (h2 : s.toInt ≤ 1000000) : quC d s = lN (uN d / s.toInt.toNat) := by
  obtain ⟨es, _⟩ := l_of_pos (s := s) (by omega)
  generalize hS : s.toInt.toNat = S at es ⊢
  have hS1 : 1 ≤ S := by omega
  have hS2 : S ≤ 1000000 := by omega
  subst es
  have hU := uN_lt d
  unfold quC
  rw [if_pos (show (1 : Int64) ≤ lN S from (pk_lLE (a := 1) (by omega) (by omega)).mpr hS1)]
  have e1 : (d.toUInt64 >>> ((1 : Int32).toInt64.toUInt64 &&& Int64.toUInt64 63)).toInt64 = lN (uN d / 2) := by
    apply uN_inj
    rw [uN_shr, uN_lN (by omega)]
    have h9 : ((1 : Int32).toInt64.toUInt64 &&& Int64.toUInt64 63).toNat % 64 = 1 := by decide
    rw [h9]
  rw [e1, pk_lDiv (show uN d / 2 < 2 ^ 63 by omega) (by omega) (by omega)]
  generalize hq : uN d / 2 / S = q
  have hm := Nat.div_add_mod (uN d / 2) S
  rw [hq] at hm
  have hr := Nat.mod_lt (uN d / 2) (show 0 < S by omega)
  generalize uN d / 2 % S = r at hm hr
  have h2m := Nat.div_add_mod (uN d) 2
  have hq2 : q ≤ uN d / 2 := by rw [← hq]; exact Nat.div_le_self _ _
  have e2 : (lN q) <<< ((1 : Int32).toInt64 &&& 63) = lN (2 * q) := by
    apply uN_inj
    rw [uN_shl, uN_lN (by omega), uN_lN (by omega), Nat.mod_eq_of_lt (by omega)]
  rw [e2, lN_mul]
  have hX : 2 * q * S = 2 * (S * q) := by rw [Nat.mul_assoc, Nat.mul_comm q S]
  have hle : 2 * q * S ≤ uN d := by omega
  have e3 : d - lN (2 * q * S) = lN (uN d - 2 * q * S) := by
    conv => lhs; rw [← lN_uN d]
    exact lN_sub hle
  rw [e3]
  have hlt : uN d - 2 * q * S < 2 ^ 63 := by omega
  have hU2 : uN d = (uN d - 2 * q * S) + S * (2 * q) := by
    rw [Nat.mul_comm S]; omega
  have hdiv : uN d / S = (uN d - 2 * q * S) / S + 2 * q := by
    conv => lhs; rw [hU2]
    rw [Nat.add_mul_div_left _ _ (by omega)]
  by_cases hc : uN d - 2 * q * S < S
  · rw [if_pos ((pk_lLT hlt (by omega)).mpr hc), hdiv, Nat.div_eq_of_lt hc, Nat.zero_add]
  · rw [if_neg (fun h => hc ((pk_lLT hlt (by omega)).mp h)), hdiv]
    have h1d : (uN d - 2 * q * S) / S = 1 := by
      apply Nat.div_eq_of_lt_le <;> omega
    rw [h1d, lN_1, Nat.add_comm]
/-- the end of Row.placeOf, of a distance and a stride -/
theorem rp_end {d s : Int64} (h1 : 1 ≤ s.toInt) (h2 : s.toInt ≤ 1000000) : (if (quC d s * s) = d then (if (0 : Int64) ≤ quC d s then quC d s else (-1 : Int64)) else (-2 : Int64)) = if uN d % s.toInt.toNat = 0 then sat (uN d / s.toInt.toNat) else -2 := by
  rw [quC_eq h1 h2]
  obtain ⟨es, hs9⟩ := l_of_pos (s := s) (by omega)
  generalize hS : s.toInt.toNat = S at es hs9 ⊢
  have hU := uN_lt d
  have hdm := Nat.div_add_mod (uN d) S
  have hr := Nat.mod_lt (uN d) (show 0 < S by omega)
  have hle : uN d / S ≤ uN d := Nat.div_le_self _ _
  have e1 : lN (uN d / S) * s = d ↔ uN d % S = 0 := by
    rw [es, lN_mul, Nat.mul_comm]
    constructor
    · intro h
      have h3 := congrArg uN h
      rw [uN_lN (by omega)] at h3
      omega
    · intro h
      rw [show S * (uN d / S) = uN d by omega]
      exact lN_uN d
  by_cases hc : uN d % S = 0
  · rw [if_pos (e1.mpr hc), if_pos hc]
    by_cases hb : uN d / S < 9223372036854775808
    · rw [sat_lt hb, if_pos]
      exact (pk_lLE (a := 0) (by omega) hb).mpr (Nat.zero_le _)
    · rw [sat_ge (by omega), if_neg]
      intro h
      rw [Int64.le_iff_toInt_le] at h
      have e4 := uN_int (lN (uN d / S))
      rw [uN_lN (by omega)] at e4
      rw [if_neg (by omega)] at e4
      have e5 : (0 : Int64).toInt = 0 := rfl
      omega
  · rw [if_neg (fun h => hc (e1.mp h)), if_neg hc]
theorem i2l_toInt (x : Int32) : x.toInt64.toInt = x.toInt := by simp
theorem ineg_toInt {x : Int32} (h1 : -1000000 ≤ x.toInt) (h2 : x.toInt ≤ 1000000) : (-x).toInt = -x.toInt := by
  rw [Int32.toInt_neg]
  exact Int.bmod_eq_of_le (by omega) (by omega)
def pmS (o : Option Nat) : Int64 := match o with
  | none => -2
  | some k => sat k
def rowOK (q : Sg) (fi la : Int64) (sp : Int32) : Prop := ¬ q.1 = 2 ∧ fi = q.2.1 ∧ sp = q.2.2.2 ∧ (0 < cntS q → la.toInt = q.2.1.toInt + ((cntS q : Int) - 1) * q.2.2.2.toInt)
theorem rp_eq {q : Sg} {fi la : Int64} {sp : Int32} (hq : okS q) (h : rowOK q fi la sp) (v : Int64) : rpC (sat (cntS q)) fi la sp v = pmS (posS q v) := by
  obtain ⟨h2, rfl, rfl, hla⟩ := h
  obtain ⟨b1, b2, b3⟩ := hq.2 h2
  obtain ⟨kd, a, b, sp⟩ := q
  simp only at h2 b1 b2 b3 hla ⊢
  by_cases hc0 : cntS (kd, a, b, sp) = 0
  · have hp : posS (kd, a, b, sp) v = none := by
      cases hp : posS (kd, a, b, sp) v with
      | none => rfl
      | some k => exact absurd (pos_lt hq hp) (by omega)
    rw [hp, hc0]
    have e0 : sat 0 = 0 := rfl
    unfold rpC pmS
    rw [e0]
    simp
  · have hc1 : 0 < cntS (kd, a, b, sp) := by omega
    have hla := hla hc1
    have hz : ¬ sat (cntS (kd, a, b, sp)) = 0 := fun h => hc0 ((sat_0 _).mp h)
    unfold rpC
    simp only [if_neg hz, ite_self]
    by_cases hs : 0 < sp.toInt
    · rw [if_neg (fun h => by rw [Int32.le_iff_toInt_le] at h; have e : (0 : Int32).toInt = 0 := rfl; omega)]
      have hcnt : (cntS (kd, a, b, sp) : Int) = (b.toInt - a.toInt) / sp.toInt + 1 ∧ a.toInt ≤ b.toInt := by
        unfold cntS at hc0 ⊢
        simp only [if_neg h2, if_pos hs] at hc0 ⊢
        split at hc0
        · omega
        · rename_i h5
          rw [if_neg h5]
          have := Int.ediv_nonneg (show 0 ≤ b.toInt - a.toInt by omega) (show 0 ≤ sp.toInt by omega)
          omega
      obtain ⟨hcnt, hab⟩ := hcnt
      have hdm := Int.mul_ediv_add_emod (b.toInt - a.toInt) sp.toInt
      have hmm := Int.emod_lt_of_pos (b.toInt - a.toInt) hs
      have hmn := Int.emod_nonneg (b.toInt - a.toInt) b1
      have hlb : la.toInt = a.toInt + sp.toInt * ((b.toInt - a.toInt) / sp.toInt) := by
        rw [hla, hcnt, Int.mul_comm]
        congr 2
        omega
      unfold posS
      simp only [if_neg h2, if_pos hs]
      by_cases hv1 : v < a
      · rw [if_pos hv1]
        rw [Int64.lt_iff_toInt_lt] at hv1
        rw [if_neg (fun h => by omega)]; rfl
      · rw [if_neg hv1]
        rw [Int64.lt_iff_toInt_lt] at hv1
        have hd := uN_dist (show a.toInt ≤ v.toInt by omega)
        have hs64 : sp.toInt64.toInt = sp.toInt := i2l_toInt sp
        by_cases hv2 : v ≤ la
        · rw [if_pos hv2]
          rw [Int64.le_iff_toInt_le] at hv2
          rw [rp_end (by omega) (by omega), hs64]
          have hmod : (uN (v - a) % sp.toInt.toNat : Nat) = ((v.toInt - a.toInt) % sp.toInt).toNat := nat_emod hd (by omega)
          have hdiv : (uN (v - a) / sp.toInt.toNat : Nat) = ((v.toInt - a.toInt) / sp.toInt).toNat := nat_ediv hd (by omega)
          have hmn2 := Int.emod_nonneg (v.toInt - a.toInt) b1
          by_cases hm : (v.toInt - a.toInt) % sp.toInt = 0
          · rw [if_pos (by rw [hmod, hm]; rfl), if_pos ⟨by omega, by omega, hm⟩, hdiv]; rfl
          · rw [if_neg (by rw [hmod]; omega), if_neg (fun h => hm h.2.2)]; rfl
        · rw [if_neg hv2]
          rw [Int64.le_iff_toInt_le] at hv2
          rw [if_neg]
          · rfl
          · intro h
            have h5 := Int.mul_ediv_add_emod (v.toInt - a.toInt) sp.toInt
            rw [h.2.2, Int.add_zero] at h5
            have h6 : (b.toInt - a.toInt) / sp.toInt < (v.toInt - a.toInt) / sp.toInt := by
              apply Int.lt_of_mul_lt_mul_left (a := sp.toInt) _ (by omega)
              omega
            have h7 : sp.toInt * ((b.toInt - a.toInt) / sp.toInt + 1) ≤ sp.toInt * ((v.toInt - a.toInt) / sp.toInt) := Int.mul_le_mul_of_nonneg_left (by omega) (by omega)
            rw [Int.mul_add, Int.mul_one] at h7
            omega
    · rw [if_pos (show sp ≤ 0 by rw [Int32.le_iff_toInt_le]; have e : (0 : Int32).toInt = 0 := rfl; omega)]
      have hs' : 0 < -sp.toInt := by omega
      have hcnt : (cntS (kd, a, b, sp) : Int) = (a.toInt - b.toInt) / (-sp.toInt) + 1 ∧ b.toInt ≤ a.toInt := by
        unfold cntS at hc0 ⊢
        simp only [if_neg h2, if_neg hs] at hc0 ⊢
        split at hc0
        · omega
        · rename_i h5
          rw [if_neg h5]
          have := Int.ediv_nonneg (show 0 ≤ a.toInt - b.toInt by omega) (show 0 ≤ -sp.toInt by omega)
          omega
      obtain ⟨hcnt, hab⟩ := hcnt
      have hdm := Int.mul_ediv_add_emod (a.toInt - b.toInt) (-sp.toInt)
      have hmm := Int.emod_lt_of_pos (a.toInt - b.toInt) hs'
      have hmn := Int.emod_nonneg (a.toInt - b.toInt) (show -sp.toInt ≠ 0 by omega)
      have hlb : la.toInt = a.toInt - (-sp.toInt) * ((a.toInt - b.toInt) / (-sp.toInt)) := by
        rw [hla, hcnt, Int.neg_mul, Int.sub_neg, Int.mul_comm]
        congr 2
        omega
      unfold posS
      simp only [if_neg h2, if_neg hs]
      by_cases hv1 : a < v
      · rw [if_pos hv1]
        rw [Int64.lt_iff_toInt_lt] at hv1
        rw [if_neg (fun h => by omega)]; rfl
      · rw [if_neg hv1]
        rw [Int64.lt_iff_toInt_lt] at hv1
        have hd := uN_dist (show v.toInt ≤ a.toInt by omega)
        have hs64 : (-sp).toInt64.toInt = -sp.toInt := by rw [i2l_toInt, ineg_toInt b2 b3]
        by_cases hv2 : la ≤ v
        · rw [if_pos hv2]
          rw [Int64.le_iff_toInt_le] at hv2
          rw [rp_end (by omega) (by omega), hs64]
          have hmod : (uN (a - v) % (-sp.toInt).toNat : Nat) = ((a.toInt - v.toInt) % (-sp.toInt)).toNat := nat_emod hd (by omega)
          have hdiv : (uN (a - v) / (-sp.toInt).toNat : Nat) = ((a.toInt - v.toInt) / (-sp.toInt)).toNat := nat_ediv hd (by omega)
          have hmn2 := Int.emod_nonneg (a.toInt - v.toInt) (show -sp.toInt ≠ 0 by omega)
          by_cases hm : (a.toInt - v.toInt) % (-sp.toInt) = 0
          · rw [if_pos (by rw [hmod, hm]; rfl), if_pos ⟨by omega, by omega, hm⟩, hdiv]; rfl
          · rw [if_neg (by rw [hmod]; omega), if_neg (fun h => hm h.2.2)]; rfl
        · rw [if_neg hv2]
          rw [Int64.le_iff_toInt_le] at hv2
          rw [if_neg]
          · rfl
          · intro h
            have h5 := Int.mul_ediv_add_emod (a.toInt - v.toInt) (-sp.toInt)
            rw [h.2.2, Int.add_zero] at h5
            have h6 : (a.toInt - b.toInt) / (-sp.toInt) < (a.toInt - v.toInt) / (-sp.toInt) := by
              apply Int.lt_of_mul_lt_mul_left (a := -sp.toInt) _ (by omega)
              omega
            have h7 : (-sp.toInt) * ((a.toInt - b.toInt) / (-sp.toInt) + 1) ≤ (-sp.toInt) * ((a.toInt - v.toInt) / (-sp.toInt)) := Int.mul_le_mul_of_nonneg_left (by omega) (by omega)
            rw [Int.mul_add, Int.mul_one] at h7
            omega
def namesOK (q : Sg) (ar fi : Int32) : Prop := q.1 = 2 ∧ ar = q.2.2.2 ∧ fi.toInt = q.2.1.toInt
theorem l_sub_toInt {a b : Int64} (h1 : -1000 ≤ a.toInt - b.toInt) (h2 : a.toInt - b.toInt ≤ 1000) : (a - b).toInt = a.toInt - b.toInt := by
  rw [Int64.toInt_sub]
  exact Int.bmod_eq_of_le (by omega) (by omega)
theorem l_add_toInt {a b : Int64} (h1 : -1000 ≤ a.toInt + b.toInt) (h2 : a.toInt + b.toInt ≤ 1000) : (a + b).toInt = a.toInt + b.toInt := by
  rw [Int64.toInt_add]
  exact Int.bmod_eq_of_le (by omega) (by omega)
theorem l_eq_sat {x : Int64} {n : Nat} (h : x.toInt = (n : Int)) (hn : n < 9223372036854775808) : x = sat n := by
  rw [sat_lt hn]
  apply Int64.toInt_inj.mp
  rw [h, pk_lT hn]
theorem np_eq {q : Sg} {ar fi : Int32} (hq : okS q) (h : namesOK q ar fi) (v : Int64) : npC (sat (cntS q)) ar fi v = pmS (posS q v) := by
  obtain ⟨h2, rfl, hfi⟩ := h
  obtain ⟨b1, b2, b3, b4, b5, b6⟩ := hq.1 h2
  obtain ⟨kd, a, b, n⟩ := q
  simp only at h2 b1 b2 b3 b4 b5 b6 hfi ⊢
  have hc : (cntS (kd, a, b, n) : Int) = if a.toInt ≤ b.toInt then b.toInt - a.toInt + 1 else n.toInt - a.toInt + b.toInt + 1 := by
    unfold cntS
    simp only [if_pos h2]
    split <;> omega
  have hclt : cntS (kd, a, b, n) < 9223372036854775808 := by split at hc <;> omega
  have hcz : (sat (cntS (kd, a, b, n))).toInt = (cntS (kd, a, b, n) : Int) := by rw [sat_toInt, if_pos hclt]
  have e0 : (0 : Int64).toInt = 0 := rfl
  have en : n.toInt64.toInt = n.toInt := i2l_toInt n
  have ef : fi.toInt64.toInt = a.toInt := by rw [i2l_toInt, hfi]
  unfold npC posS
  simp only [if_pos h2]
  by_cases hv1 : v < 0
  · rw [if_pos hv1]
    rw [Int64.lt_iff_toInt_lt] at hv1
    rw [if_neg (fun h => by omega)]; rfl
  · rw [if_neg hv1]
    rw [Int64.lt_iff_toInt_lt] at hv1
    by_cases hv2 : v < n.toInt64
    · rw [if_pos hv2]
      rw [Int64.lt_iff_toInt_lt] at hv2
      by_cases hv3 : v < fi.toInt64
      · rw [if_pos hv3]
        rw [Int64.lt_iff_toInt_lt] at hv3
        have e1 : (v - fi.toInt64).toInt = v.toInt - a.toInt := by rw [l_sub_toInt (by omega) (by omega), ef]
        have e2 : (v - fi.toInt64 + n.toInt64).toInt = v.toInt - a.toInt + n.toInt := by rw [l_add_toInt (by omega) (by omega), e1, en]
        by_cases hz : sat (cntS (kd, a, b, n)) ≤ v - fi.toInt64 + n.toInt64
        · rw [if_pos hz]
          rw [Int64.le_iff_toInt_le, hcz, e2, hc] at hz
          rw [if_neg]
          · rfl
          · intro h
            obtain ⟨_, _, c1, c2⟩ := h
            split at hz
            · rename_i h5
              have := c1 h5
              omega
            · rename_i h5
              have := c2 h5
              omega
        · rw [if_neg hz]
          rw [Int64.le_iff_toInt_le, hcz, e2, hc] at hz
          rw [if_pos, if_neg (by omega)]
          · exact l_eq_sat (by omega) (by omega)
          · refine ⟨by omega, by omega, fun h5 => ?_, fun h5 => ?_⟩
            · rw [if_pos h5] at hz; omega
            · rw [if_neg h5] at hz; omega
      · rw [if_neg hv3]
        rw [Int64.lt_iff_toInt_lt] at hv3
        have e1 : (v - fi.toInt64).toInt = v.toInt - a.toInt := by rw [l_sub_toInt (by omega) (by omega), ef]
        by_cases hz : sat (cntS (kd, a, b, n)) ≤ v - fi.toInt64
        · rw [if_pos hz]
          rw [Int64.le_iff_toInt_le, hcz, e1, hc] at hz
          rw [if_neg]
          · rfl
          · intro h
            obtain ⟨_, _, c1, c2⟩ := h
            split at hz
            · rename_i h5
              have := c1 h5
              omega
            · omega
        · rw [if_neg hz]
          rw [Int64.le_iff_toInt_le, hcz, e1, hc] at hz
          rw [if_pos, if_pos (by omega)]
          · exact l_eq_sat (by omega) (by omega)
          · refine ⟨by omega, by omega, fun h5 => ?_, fun h5 => ?_⟩
            · rw [if_pos h5] at hz; omega
            · omega
    · rw [if_neg hv2]
      rw [Int64.lt_iff_toInt_lt] at hv2
      rw [if_neg (fun h => by omega)]; rfl
theorem i2l_ofInt (x : Int32) : x.toInt64 = Int64.ofInt x.toInt := by
  apply Int64.toInt_inj.mp
  rw [i2l_toInt, Int64.toInt_ofInt, show Int64.size = 18446744073709551616 from rfl]
  have h1 := x.le_toInt
  have h2 := x.toInt_lt
  exact (Int.bmod_eq_of_le (by omega) (by omega)).symm
theorem rv_eq {q : Sg} {fi la : Int64} {sp : Int32} (h : rowOK q fi la sp) (sz : Int64) (k : Nat) : rvC sz fi la sp (lN k) = valS q k := by
  obtain ⟨h2, rfl, rfl, _⟩ := h
  unfold rvC valS
  rw [if_neg h2, Int64.ofInt_add, Int64.ofInt_mul, Int64.ofInt_toInt, i2l_ofInt]
  rfl
theorem nv_eq {q : Sg} {ar fi : Int32} (hq : okS q) (h : namesOK q ar fi) (sz : Int64) {k : Nat} (hk : k < cntS q) : nvC sz ar fi (lN k) = valS q k := by
  obtain ⟨h2, rfl, hfi⟩ := h
  obtain ⟨b1, b2, b3, b4, b5, b6⟩ := hq.1 h2
  obtain ⟨kd, a, b, n⟩ := q
  simp only at h2 b1 b2 b3 b4 b5 b6 hfi hk ⊢
  have hc : (cntS (kd, a, b, n) : Int) = if a.toInt ≤ b.toInt then b.toInt - a.toInt + 1 else n.toInt - a.toInt + b.toInt + 1 := by
    unfold cntS
    simp only [if_pos h2]
    split <;> omega
  have hk2 : (k : Int) < n.toInt := by split at hc <;> omega
  have ek : (lN k).toInt = (k : Int) := pk_lT (by omega)
  have en : n.toInt64.toInt = n.toInt := i2l_toInt n
  have ef : fi.toInt64.toInt = a.toInt := by rw [i2l_toInt, hfi]
  have e1 : (fi.toInt64 + lN k).toInt = a.toInt + k := by rw [l_add_toInt (by omega) (by omega), ef, ek]
  unfold nvC valS
  simp only [if_pos h2]
  apply Int64.toInt_inj.mp
  have hm1 := Int.emod_nonneg (a.toInt + k) (show n.toInt ≠ 0 by omega)
  have hm2 := Int.emod_lt_of_pos (a.toInt + k) (show 0 < n.toInt by omega)
  rw [Int64.toInt_ofInt, show Int64.size = 18446744073709551616 from rfl, Int.bmod_eq_of_le (by omega) (by omega)]
  by_cases hz : n.toInt64 ≤ fi.toInt64 + lN k
  · rw [if_pos hz]
    rw [Int64.le_iff_toInt_le, en, e1] at hz
    rw [l_sub_toInt (by omega) (by omega), e1, en]
    rw [← Int.emod_eq_of_lt (show 0 ≤ a.toInt + k - n.toInt by omega) (show a.toInt + k - n.toInt < n.toInt by omega), Int.sub_emod_right]
  · rw [if_neg hz]
    rw [Int64.le_iff_toInt_le, en, e1] at hz
    rw [e1, Int.emod_eq_of_lt (by omega) (by omega)]
