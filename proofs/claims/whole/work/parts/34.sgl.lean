/-! the reference: its singles -/
def sgM (A : Nat → Nat → Int32) (L : Nat → Nat → Int64) (o : Nat) : Sg := (A 1 o, L 5 o, L 6 o, A 7 o)
theorem su_facts {d : Int64} {S : Nat} (hS1 : 1 ≤ S) (hS2 : S ≤ 1000000) : (d.toUInt64 >>> ((1 : Int32).toInt64.toUInt64 &&& Int64.toUInt64 63)).toInt64 = lN (uN d / 2) ∧ d - lN (2 * (uN d / 2 / S)) * lN S = lN (uN d - 2 * (uN d / 2 / S) * S) ∧ uN d - 2 * (uN d / 2 / S) * S < 2 * S ∧ uN d / S = (uN d - 2 * (uN d / 2 / S) * S) / S + 2 * (uN d / 2 / S) := by
  have hU := uN_lt d
  have e1 : (d.toUInt64 >>> ((1 : Int32).toInt64.toUInt64 &&& Int64.toUInt64 63)).toInt64 = lN (uN d / 2) := by
    apply uN_inj
    rw [uN_shr, uN_lN (by omega)]
    have h9 : ((1 : Int32).toInt64.toUInt64 &&& Int64.toUInt64 63).toNat % 64 = 1 := by decide
    rw [h9]
  refine ⟨e1, ?_⟩
  generalize hq : uN d / 2 / S = q
  have hm := Nat.div_add_mod (uN d / 2) S
  rw [hq] at hm
  have hr := Nat.mod_lt (uN d / 2) (show 0 < S by omega)
  generalize uN d / 2 % S = r at hm hr
  have h2m := Nat.div_add_mod (uN d) 2
  have hX : 2 * q * S = 2 * (S * q) := by rw [Nat.mul_assoc, Nat.mul_comm q S]
  have hle : 2 * q * S ≤ uN d := by omega
  have hU2 : uN d = (uN d - 2 * q * S) + S * (2 * q) := by
    rw [Nat.mul_comm S]; omega
  refine ⟨?_, by omega, ?_⟩
  · rw [lN_mul]
    conv => lhs; rw [← lN_uN d]
    exact lN_sub hle
  · conv => lhs; rw [hU2]
    rw [Nat.add_mul_div_left _ _ (by omega)]
set_option maxHeartbeats 4000000 in
set_option maxRecDepth 100000 in
theorem m_stepsUp (l : Launch) (D : va_G) (B : Nat) (K : Nat → ClassId) (f : St) (lo hi by_ : Int64) (h1 : 1 ≤ by_.toInt) (h2 : by_.toInt ≤ 1000000) : Kc l D B K yX9_stepsUp cX9_stepsUp 14 (some .long) 0 0 0 [.long lo, .long hi, .long by_] f (Ql_ D B (fun r f9 => r = sat (uN (hi - lo) / by_.toInt.toNat) ∧ f9 = f)) := by
  obtain ⟨es, _⟩ := l_of_pos (s := by_) (by omega)
  generalize hSe : by_.toInt.toNat = S at es ⊢
  have hS1 : 1 ≤ S := by omega
  have hS2 : S ≤ 1000000 := by omega
  subst es
  obtain ⟨e1, e2, e3, e4⟩ := su_facts (d := hi - lo) hS1 hS2
  have hU := uN_lt (hi - lo)
  have eI := uN_int (hi - lo)
  have hne : ¬ lN S = 0 := fun h9 => by have h8 := (pk_lEQ (b := 0) (show S < 2 ^ 63 by omega) (by omega)).mp h9; omega
  refine v_met [(0, .long lo), (2, .long hi), (4, .long (lN S))] (by decide) (Nat.le_of_ble_eq_true rfl) rfl ?_
  intro p e s m args below meth c C hr hlk hin
  by_cases c0 : (hi - lo) < 0
  · have hbig : 9223372036854775808 ≤ uN (hi - lo) := by
      rw [Int64.lt_iff_toInt_lt] at c0
      have z : (0 : Int64).toInt = 0 := rfl
      split at eI <;> omega
    by_cases c1 : S = 1
    · refine v_lload_n C dX9_stepsUp_0 rfl rfl ?_
      refine v_lload_n C dX9_stepsUp_1 rfl rfl ?_
      refine v_lsub C dX9_stepsUp_2 ?_
      refine v_lstore C dX9_stepsUp_3 (by decide) rfl ?_
      refine v_lload C dX9_stepsUp_5 rfl ?_
      refine v_lconst (v := 0) C dX9_stepsUp_7 (by decide) ?_
      refine v_lc_lt (tgt := 18) C dX9_stepsUp_8 dX9_stepsUp_9 (by decide) (fun c_8 => ?_) (fun c_8 => absurd c0 c_8)
      refine v_lload C dX9_stepsUp_18 rfl ?_
      refine v_lconst (v := 1) C dX9_stepsUp_20 (by decide) ?_
      refine v_lc_ne (tgt := 29) C dX9_stepsUp_21 dX9_stepsUp_22 (by decide) (fun c_21 => absurd (by rw [c1]; rfl) c_21) (fun c_21 => ?_)
      refine v_ldc2 C dX9_stepsUp_25 g_kl_X9_68 ?_
      exact v_lret C hr hlk dX9_stepsUp_28 (Nat.le_refl _) (Nat.le_refl _) ⟨by rw [c1, Nat.div_one, sat_ge hbig], rfl⟩
    · refine v_lload_n C dX9_stepsUp_0 rfl rfl ?_
      refine v_lload_n C dX9_stepsUp_1 rfl rfl ?_
      refine v_lsub C dX9_stepsUp_2 ?_
      refine v_lstore C dX9_stepsUp_3 (by decide) rfl ?_
      refine v_lload C dX9_stepsUp_5 rfl ?_
      refine v_lconst (v := 0) C dX9_stepsUp_7 (by decide) ?_
      refine v_lc_lt (tgt := 18) C dX9_stepsUp_8 dX9_stepsUp_9 (by decide) (fun c_8 => ?_) (fun c_8 => absurd c0 c_8)
      refine v_lload C dX9_stepsUp_18 rfl ?_
      refine v_lconst (v := 1) C dX9_stepsUp_20 (by decide) ?_
      refine v_lc_ne (tgt := 29) C dX9_stepsUp_21 dX9_stepsUp_22 (by decide) (fun c_21 => ?_) (fun c_21 => absurd c_21 (fun h9 => c1 ((pk_lEQ (b := 1) (by omega) (by omega)).mp h9)))
      refine v_lload C dX9_stepsUp_29 rfl ?_
      refine v_iconst (v := 1) C dX9_stepsUp_31 (by decide) ?_
      refine v_lushr C dX9_stepsUp_32 ?_
      refine v_rl e1 ?_
      refine v_lload C dX9_stepsUp_33 rfl ?_
      refine v_ldiv C dX9_stepsUp_35 hne ?_
      refine v_rl (pk_lDiv (by omega) (by omega) (by omega)) ?_
      refine v_lstore C dX9_stepsUp_36 (by decide) rfl ?_
      refine v_ldc2 C dX9_stepsUp_38 g_kl_X9_70 ?_
      refine v_lload C dX9_stepsUp_41 rfl ?_
      refine v_lmul C dX9_stepsUp_43 ?_
      refine v_rl (show lN 2 * _ = _ from lN_mul 2 _) ?_
      refine v_lstore C dX9_stepsUp_44 (by decide) rfl ?_
      refine v_lload C dX9_stepsUp_46 rfl ?_
      refine v_lload C dX9_stepsUp_48 rfl ?_
      refine v_lload C dX9_stepsUp_50 rfl ?_
      refine v_lmul C dX9_stepsUp_52 ?_
      refine v_lsub C dX9_stepsUp_53 ?_
      refine v_rl e2 ?_
      refine v_lstore C dX9_stepsUp_54 (by decide) rfl ?_
      have hq2 : uN (hi - lo) / 2 / S ≤ uN (hi - lo) / 2 / 2 := Nat.div_le_div_left (by omega) (by omega)
      generalize hq : uN (hi - lo) / 2 / S = q at *
      generalize hX : uN (hi - lo) - 2 * q * S = X at *
      have hx0 : ¬ lN X < 0 := fun h9 => by have h8 := (pk_lLT (b := 0) (show X < 2 ^ 63 by omega) (by omega)).mp h9; omega
      by_cases hc : X < S
      · refine v_lload C dX9_stepsUp_56 rfl ?_
        refine v_lconst (v := 0) C dX9_stepsUp_58 (by decide) ?_
        refine v_lc_lt (tgt := 71) C dX9_stepsUp_59 dX9_stepsUp_60 (by decide) (fun c_59 => absurd c_59 hx0) (fun c_59 => ?_)
        refine v_lload C dX9_stepsUp_63 rfl ?_
        refine v_lload C dX9_stepsUp_65 rfl ?_
        refine v_lc_lt (tgt := 87) C dX9_stepsUp_67 dX9_stepsUp_68 (by decide) (fun c_67 => ?_) (fun c_67 => absurd ((pk_lLT (by omega) (by omega)).mpr hc) c_67)
        refine v_lload C dX9_stepsUp_87 rfl ?_
        exact v_lret C hr hlk dX9_stepsUp_89 (Nat.le_refl _) (Nat.le_refl _) ⟨by rw [e4, Nat.div_eq_of_lt hc, Nat.zero_add, sat_lt (by omega)], rfl⟩
      · refine v_lload C dX9_stepsUp_56 rfl ?_
        refine v_lconst (v := 0) C dX9_stepsUp_58 (by decide) ?_
        refine v_lc_lt (tgt := 71) C dX9_stepsUp_59 dX9_stepsUp_60 (by decide) (fun c_59 => absurd c_59 hx0) (fun c_59 => ?_)
        refine v_lload C dX9_stepsUp_63 rfl ?_
        refine v_lload C dX9_stepsUp_65 rfl ?_
        refine v_lc_lt (tgt := 87) C dX9_stepsUp_67 dX9_stepsUp_68 (by decide) (fun c_67 => absurd c_67 (fun h9 => hc ((pk_lLT (by omega) (by omega)).mp h9))) (fun c_67 => ?_)
        refine v_lload C dX9_stepsUp_71 rfl ?_
        refine v_lconst (v := 1) C dX9_stepsUp_73 (by decide) ?_
        refine v_ladd C dX9_stepsUp_74 ?_
        refine v_rl (lN_1 _) ?_
        refine v_lstore C dX9_stepsUp_75 (by decide) rfl ?_
        refine v_lload C dX9_stepsUp_77 rfl ?_
        refine v_lload C dX9_stepsUp_79 rfl ?_
        refine v_lsub C dX9_stepsUp_81 ?_
        refine v_rl (lN_sub (by omega)) ?_
        refine v_lstore C dX9_stepsUp_82 (by decide) rfl ?_
        refine v_goto (tgt := 56) C dX9_stepsUp_84 (by decide) ?_
        have hx1 : ¬ lN (X - S) < 0 := fun h9 => by have h8 := (pk_lLT (b := 0) (show X - S < 2 ^ 63 by omega) (by omega)).mp h9; omega
        refine v_lload C dX9_stepsUp_56 rfl ?_
        refine v_lconst (v := 0) C dX9_stepsUp_58 (by decide) ?_
        refine v_lc_lt (tgt := 71) C dX9_stepsUp_59 dX9_stepsUp_60 (by decide) (fun c_59 => absurd c_59 hx1) (fun c_59 => ?_)
        refine v_lload C dX9_stepsUp_63 rfl ?_
        refine v_lload C dX9_stepsUp_65 rfl ?_
        refine v_lc_lt (tgt := 87) C dX9_stepsUp_67 dX9_stepsUp_68 (by decide) (fun c_67 => ?_) (fun c_67 => absurd ((pk_lLT (by omega) (by omega)).mpr (by omega)) c_67)
        refine v_lload C dX9_stepsUp_87 rfl ?_
        exact v_lret C hr hlk dX9_stepsUp_89 (Nat.le_refl _) (Nat.le_refl _) ⟨by rw [e4, show X / S = 1 from Nat.div_eq_of_lt_le (by omega) (by omega), sat_lt (by omega), Nat.add_comm], rfl⟩
  · refine v_lload_n C dX9_stepsUp_0 rfl rfl ?_
    refine v_lload_n C dX9_stepsUp_1 rfl rfl ?_
    refine v_lsub C dX9_stepsUp_2 ?_
    refine v_lstore C dX9_stepsUp_3 (by decide) rfl ?_
    refine v_lload C dX9_stepsUp_5 rfl ?_
    refine v_lconst (v := 0) C dX9_stepsUp_7 (by decide) ?_
    refine v_lc_lt (tgt := 18) C dX9_stepsUp_8 dX9_stepsUp_9 (by decide) (fun c_8 => absurd c_8 c0) (fun c_8 => ?_)
    refine v_lload C dX9_stepsUp_12 rfl ?_
    refine v_lload C dX9_stepsUp_14 rfl ?_
    have hlt : uN (hi - lo) < 9223372036854775808 := by
      rw [Int64.lt_iff_toInt_lt] at c0
      have z : (0 : Int64).toInt = 0 := rfl
      split at eI <;> omega
    refine v_ldiv C dX9_stepsUp_16 hne ?_
    exact v_lret C hr hlk dX9_stepsUp_17 (Nat.le_refl _) (Nat.le_refl _) ⟨by rw [sat_lt (Nat.lt_of_le_of_lt (Nat.div_le_self _ _) hlt), ← pk_lDiv (by omega) (by omega) (by omega), lN_uN], rfl⟩

theorem tmod_emod {a S : Int} (hS : 0 < S) : a % S = if 0 ≤ a.tmod S then a.tmod S else a.tmod S + S := by
  have h1 := Int.mul_tdiv_add_tmod a S
  have h2 : a % S = a.tmod S % S := by
    conv => lhs; rw [← h1]
    rw [Int.mul_add_emod_self_left]
  have h3 := Int.tmod_lt_of_pos a hS
  have h4 : -S < a.tmod S := by
    have h5 := Int.tmod_lt_of_pos (-a) hS
    rw [Int.neg_tmod] at h5
    omega
  split
  · rw [h2, Int.emod_eq_of_lt (by omega) h3]
  · rw [h2, ← Int.add_emod_right, Int.emod_eq_of_lt (by omega) (by omega)]
theorem tmod_lo {a S : Int} (hS : 0 < S) : -S < a.tmod S ∧ a.tmod S < S := by
  have h5 := Int.tmod_lt_of_pos (-a) hS
  rw [Int.neg_tmod] at h5
  exact ⟨by omega, Int.tmod_lt_of_pos a hS⟩
theorem lrem_toInt {a b : Int64} (hb : 0 < b.toInt) (hb2 : b.toInt ≤ 1000000) : (a - a / b * b).toInt = a.toInt.tmod b.toInt := by
  have h3 := tmod_lo (a := a.toInt) hb
  rw [Int64.toInt_sub, Int64.toInt_mul, Int64.toInt_div]
  rw [Int.sub_bmod_bmod]
  rw [← Int.sub_bmod_bmod, Int.bmod_mul_bmod, Int.sub_bmod_bmod]
  rw [Int.mul_comm]
  rw [show a.toInt - b.toInt * a.toInt.tdiv b.toInt = a.toInt.tmod b.toInt by have := Int.mul_tdiv_add_tmod a.toInt b.toInt; omega]
  exact Int.bmod_eq_of_le (by omega) (by omega)
theorem lo_eq {a b s : Int64} (hs : 0 < s.toInt) (hs2 : s.toInt ≤ 1000000) : (loM a b s).toInt = (a.toInt - b.toInt) % s.toInt := by
  have ha := lrem_toInt (a := a) hs hs2
  have hb := lrem_toInt (a := b) hs hs2
  have ha2 := tmod_lo (a := a.toInt) hs
  have hb2 := tmod_lo (a := b.toInt) hs
  have hsub : ((a - a / s * s) - (b - b / s * s)).toInt = a.toInt.tmod s.toInt - b.toInt.tmod s.toInt := by
    rw [Int64.toInt_sub, ha, hb]
    exact Int.bmod_eq_of_le (by omega) (by omega)
  have hd := lrem_toInt (a := (a - a / s * s) - (b - b / s * s)) hs hs2
  rw [hsub] at hd
  have hd2 := tmod_lo (a := a.toInt.tmod s.toInt - b.toInt.tmod s.toInt) hs
  have he : (a.toInt - b.toInt) % s.toInt = (a.toInt.tmod s.toInt - b.toInt.tmod s.toInt) % s.toInt := by
    have h1 := Int.mul_tdiv_add_tmod a.toInt s.toInt
    have h2 := Int.mul_tdiv_add_tmod b.toInt s.toInt
    conv => lhs; rw [← h1, ← h2]
    rw [show s.toInt * a.toInt.tdiv s.toInt + a.toInt.tmod s.toInt - (s.toInt * b.toInt.tdiv s.toInt + b.toInt.tmod s.toInt) = s.toInt * (a.toInt.tdiv s.toInt - b.toInt.tdiv s.toInt) + (a.toInt.tmod s.toInt - b.toInt.tmod s.toInt) by rw [Int.mul_sub]; omega, Int.mul_add_emod_self_left]
  rw [he, tmod_emod hs]
  unfold loM
  have z : (0 : Int64).toInt = 0 := rfl
  by_cases hc : (0 : Int64) ≤ (((a - a / s * s) - (b - b / s * s)) - ((a - a / s * s) - (b - b / s * s)) / s * s)
  · rw [if_pos hc, hd]
    rw [Int64.le_iff_toInt_le, hd, z] at hc
    rw [if_pos hc]
  · rw [if_neg hc]
    rw [Int64.le_iff_toInt_le, hd, z] at hc
    rw [if_neg hc, Int64.toInt_add, hd]
    exact Int.bmod_eq_of_le (by omega) (by omega)
theorem lneg_toInt {x : Int32} (h1 : -1000000 ≤ x.toInt) (h2 : x.toInt ≤ 1000000) : (-x.toInt64).toInt = -x.toInt := by
  rw [Int64.toInt_neg, i2l_toInt]
  exact Int.bmod_eq_of_le (by omega) (by omega)
theorem nx_sat (Q : Nat) : (if sat Q < (0 : Int64) then (-1 : Int64) else if sat Q = (9223372036854775807 : Int64) then (-1 : Int64) else sat Q + 1) = sat (Q + 1) := by
  have z : (0 : Int64).toInt = 0 := rfl
  by_cases h : Q < 9223372036854775808
  · rw [sat_lt h, if_neg (fun h9 => by rw [Int64.lt_iff_toInt_lt, pk_lT h] at h9; omega)]
    by_cases h2 : Q = 9223372036854775807
    · subst h2; rw [if_pos (show lN 9223372036854775807 = 9223372036854775807 from rfl), sat_ge (by omega)]
    · rw [if_neg (show ¬ lN Q = 9223372036854775807 from fun h9 => h2 ((pk_lEQ (b := 9223372036854775807) h (by omega)).mp h9)), lN_1, sat_lt (by omega)]
  · rw [sat_ge (by omega), if_pos (by decide), sat_ge (by omega)]
theorem up_pos {x : Int32} (h : ¬ x ≤ 0) : 0 < x.toInt := by
  rw [Int32.le_iff_toInt_le] at h
  have z : (0 : Int32).toInt = 0 := rfl
  omega
theorem up_neg {x : Int32} (h : x ≤ 0) : ¬ 0 < x.toInt := by
  rw [Int32.le_iff_toInt_le] at h
  have z : (0 : Int32).toInt = 0 := rfl
  omega
theorem st_up {q : Sg} (hq : okS q) (h2 : ¬ q.1 = 2) (hs : 0 < q.2.2.2.toInt) : 1 ≤ q.2.2.2.toInt64.toInt ∧ q.2.2.2.toInt64.toInt ≤ 1000000 ∧ q.2.2.2.toInt64.toInt = q.2.2.2.toInt := by
  have h := hq.2 h2
  rw [i2l_toInt]
  exact ⟨by omega, by omega, rfl⟩
theorem st_dn {q : Sg} (hq : okS q) (h2 : ¬ q.1 = 2) (hs : ¬ 0 < q.2.2.2.toInt) : 1 ≤ (-q.2.2.2.toInt64).toInt ∧ (-q.2.2.2.toInt64).toInt ≤ 1000000 ∧ (-q.2.2.2.toInt64).toInt = -q.2.2.2.toInt := by
  have h := hq.2 h2
  rw [lneg_toInt (by omega) (by omega)]
  exact ⟨by omega, by omega, rfl⟩
theorem cnt_up {q : Sg} (hq : okS q) (h2 : ¬ q.1 = 2) (hs : 0 < q.2.2.2.toInt) (hab : ¬ q.2.2.1.toInt < q.2.1.toInt) : cntS q = uN (q.2.2.1 - q.2.1) / q.2.2.2.toInt64.toInt.toNat + 1 := by
  unfold cntS
  rw [if_neg h2, if_pos hs, if_neg hab, nat_ediv (W := q.2.2.2.toInt) (uN_dist (by omega)) (by rw [i2l_toInt]; exact Int.toNat_of_nonneg (by omega))]
theorem cnt_dn {q : Sg} (hq : okS q) (h2 : ¬ q.1 = 2) (hs : ¬ 0 < q.2.2.2.toInt) (hab : ¬ q.2.1.toInt < q.2.2.1.toInt) : cntS q = uN (q.2.1 - q.2.2.1) / (-q.2.2.2.toInt64).toInt.toNat + 1 := by
  have h := st_dn hq h2 hs
  unfold cntS
  rw [if_neg h2, if_neg hs, if_neg hab, nat_ediv (W := -q.2.2.2.toInt) (uN_dist (by omega)) (by rw [h.2.2]; exact Int.toNat_of_nonneg (by omega))]
theorem cnt_nm {q : Sg} (hq : okS q) (h2 : q.1 = 2) : (cntS q : Int) = (if q.2.1.toInt ≤ q.2.2.1.toInt then q.2.2.1.toInt - q.2.1.toInt + 1 else q.2.2.2.toInt - q.2.1.toInt + q.2.2.1.toInt + 1) ∧ cntS q ≤ 20 ∧ 1 ≤ cntS q := by
  obtain ⟨b1, b2, b3, b4, b5, b6⟩ := hq.1 h2
  unfold cntS
  rw [if_pos h2]
  split <;> omega
theorem l_le {a b : Int64} : a ≤ b ↔ a.toInt ≤ b.toInt := Int64.le_iff_toInt_le
theorem l_lt {a b : Int64} : a < b ↔ a.toInt < b.toInt := Int64.lt_iff_toInt_lt
theorem in_0 {v a b : Int64} : inM v a b = 0 ↔ ¬ (a.toInt ≤ v.toInt ∧ v.toInt ≤ b.toInt) := by
  unfold inM
  by_cases h1 : v < a
  · rw [if_pos h1]; rw [l_lt] at h1
    exact ⟨fun _ h => by omega, fun _ => rfl⟩
  · rw [if_neg h1]; rw [l_lt] at h1
    by_cases h2 : b < v
    · rw [if_pos h2]; rw [l_lt] at h2
      exact ⟨fun _ h => by omega, fun _ => rfl⟩
    · rw [if_neg h2]; rw [l_lt] at h2
      exact ⟨fun h => absurd h (by decide), fun h => absurd ⟨by omega, by omega⟩ h⟩
theorem l_eq0 {x : Int64} : x = 0 ↔ x.toInt = 0 := ⟨fun h => by rw [h]; rfl, fun h => Int64.toInt_inj.mp h⟩
theorem ss1 {kd sp : Int32} {a b : Int64} (hq : okS (kd, a, b, sp)) (h2 : kd = 2) (hb : b < a) : sp.toInt64 - a + b + 1 = sat (cntS (kd, a, b, sp)) := by
  obtain ⟨b1, b2, b3, b4, b5, b6⟩ := hq.1 h2
  obtain ⟨n1, n2, n3⟩ := cnt_nm hq h2
  simp only at b1 b2 b3 b4 b5 b6 n1
  rw [l_lt] at hb
  rw [if_neg (by omega)] at n1
  have e1 : (sp.toInt64 - a).toInt = sp.toInt - a.toInt := by rw [l_sub_toInt (by rw [i2l_toInt]; omega) (by rw [i2l_toInt]; omega), i2l_toInt]
  have e2 : (sp.toInt64 - a + b).toInt = sp.toInt - a.toInt + b.toInt := by rw [l_add_toInt (by omega) (by omega), e1]
  have e3 : (1 : Int64).toInt = 1 := rfl
  exact l_eq_sat (by rw [l_add_toInt (by omega) (by omega), e2, n1, e3]) (by omega)
theorem ss2 {kd sp : Int32} {a b : Int64} (hq : okS (kd, a, b, sp)) (h2 : kd = 2) (hb : ¬ b < a) : b - a + 1 = sat (cntS (kd, a, b, sp)) := by
  obtain ⟨b1, b2, b3, b4, b5, b6⟩ := hq.1 h2
  obtain ⟨n1, n2, n3⟩ := cnt_nm hq h2
  simp only at b1 b2 b3 b4 b5 b6 n1
  rw [l_lt] at hb
  rw [if_pos (by omega)] at n1
  have e1 : (b - a).toInt = b.toInt - a.toInt := l_sub_toInt (by omega) (by omega)
  have e3 : (1 : Int64).toInt = 1 := rfl
  exact l_eq_sat (by rw [l_add_toInt (by omega) (by omega), e1, n1, e3]) (by omega)
set_option maxHeartbeats 4000000 in
set_option maxRecDepth 100000 in
theorem m_singleSize (l : Launch) (D : va_G) (B : Nat) (K : Nat → ClassId) (f : St) (r : Nat → Nat) (f0 : St) (A : Nat → Nat → Int32) (L : Nat → Nat → Int64) (I : Nat → Int32) (o : Nat) (hM : MC K r f0 f A L I) (ho : o < 40) (hq : okS (sgM A L o)) : Kc l D B K yX9_singleSize cX9_singleSize 9 ((some .long)) 1 0 0 [.ref (r 0), .int (nI o)] f (Ql_ D B (fun a f9 => a = sat (cntS (sgM A L o)) ∧ f9 = f)) := by
  refine v_met [(0, .ref (r 0)), (1, .int (nI o))] (by decide) (Nat.le_of_ble_eq_true rfl) rfl ?_
  intro p e s m args below meth c C hr hlk hin
  by_cases hk : A 1 o = 2
  · obtain ⟨b1, b2, b3, b4, b5, b6⟩ := hq.1 hk
    obtain ⟨n1, n2, n3⟩ := cnt_nm hq hk
    simp only [sgM] at b1 b2 b3 b4 b5 b6
    by_cases hb : L 6 o < L 5 o
    · refine v_aload_n C dX9_singleSize_0 rfl rfl ?_
      refine v_get C dX9_singleSize_1 1 hM.1 rfl in_X9 (by decide) g_fl_X9_7 (fun _ h9 => h9) rfl ?_
      refine v_iload_n C dX9_singleSize_4 rfl rfl ?_
      refine m_ild C hM dX9_singleSize_5 1 o (by decide) (show _ < 40 by omega) rfl ?_
      refine v_iconst (v := 2) C dX9_singleSize_6 (by decide) ?_
      refine v_icmp_ne (tgt := 68) C dX9_singleSize_7 (by decide) (fun c_7 => absurd hk c_7) (fun c_7 => ?_)
      refine v_aload_n C dX9_singleSize_10 rfl rfl ?_
      refine v_get C dX9_singleSize_11 6 hM.1 rfl in_X9 (by decide) g_fl_X9_26 (fun _ h9 => h9) rfl ?_
      refine v_iload_n C dX9_singleSize_14 rfl rfl ?_
      refine m_lld C hM dX9_singleSize_15 6 o (by decide) (show _ < 40 by omega) rfl ?_
      refine v_aload_n C dX9_singleSize_16 rfl rfl ?_
      refine v_get C dX9_singleSize_17 5 hM.1 rfl in_X9 (by decide) g_fl_X9_23 (fun _ h9 => h9) rfl ?_
      refine v_iload_n C dX9_singleSize_20 rfl rfl ?_
      refine m_lld C hM dX9_singleSize_21 5 o (by decide) (show _ < 40 by omega) rfl ?_
      refine v_lc_lt (tgt := 44) C dX9_singleSize_22 dX9_singleSize_23 (by decide) (fun c_22 => ?_) (fun c_22 => absurd hb c_22)
      refine v_aload_n C dX9_singleSize_44 rfl rfl ?_
      refine v_get C dX9_singleSize_45 7 hM.1 rfl in_X9 (by decide) g_fl_X9_29 (fun _ h9 => h9) rfl ?_
      refine v_iload_n C dX9_singleSize_48 rfl rfl ?_
      refine m_ild C hM dX9_singleSize_49 7 o (by decide) (show _ < 40 by omega) rfl ?_
      refine v_i2l C dX9_singleSize_50 ?_
      refine v_aload_n C dX9_singleSize_51 rfl rfl ?_
      refine v_get C dX9_singleSize_52 5 hM.1 rfl in_X9 (by decide) g_fl_X9_23 (fun _ h9 => h9) rfl ?_
      refine v_iload_n C dX9_singleSize_55 rfl rfl ?_
      refine m_lld C hM dX9_singleSize_56 5 o (by decide) (show _ < 40 by omega) rfl ?_
      refine v_lsub C dX9_singleSize_57 ?_
      refine v_aload_n C dX9_singleSize_58 rfl rfl ?_
      refine v_get C dX9_singleSize_59 6 hM.1 rfl in_X9 (by decide) g_fl_X9_26 (fun _ h9 => h9) rfl ?_
      refine v_iload_n C dX9_singleSize_62 rfl rfl ?_
      refine m_lld C hM dX9_singleSize_63 6 o (by decide) (show _ < 40 by omega) rfl ?_
      refine v_ladd C dX9_singleSize_64 ?_
      refine v_lconst (v := 1) C dX9_singleSize_65 (by decide) ?_
      refine v_ladd C dX9_singleSize_66 ?_
      exact v_lret C hr hlk dX9_singleSize_67 (Nat.le_refl _) (Nat.le_refl _) ⟨ss1 (kd := A 1 o) (sp := A 7 o) (a := L 5 o) (b := L 6 o) hq hk hb, rfl⟩
    · refine v_aload_n C dX9_singleSize_0 rfl rfl ?_
      refine v_get C dX9_singleSize_1 1 hM.1 rfl in_X9 (by decide) g_fl_X9_7 (fun _ h9 => h9) rfl ?_
      refine v_iload_n C dX9_singleSize_4 rfl rfl ?_
      refine m_ild C hM dX9_singleSize_5 1 o (by decide) (show _ < 40 by omega) rfl ?_
      refine v_iconst (v := 2) C dX9_singleSize_6 (by decide) ?_
      refine v_icmp_ne (tgt := 68) C dX9_singleSize_7 (by decide) (fun c_7 => absurd hk c_7) (fun c_7 => ?_)
      refine v_aload_n C dX9_singleSize_10 rfl rfl ?_
      refine v_get C dX9_singleSize_11 6 hM.1 rfl in_X9 (by decide) g_fl_X9_26 (fun _ h9 => h9) rfl ?_
      refine v_iload_n C dX9_singleSize_14 rfl rfl ?_
      refine m_lld C hM dX9_singleSize_15 6 o (by decide) (show _ < 40 by omega) rfl ?_
      refine v_aload_n C dX9_singleSize_16 rfl rfl ?_
      refine v_get C dX9_singleSize_17 5 hM.1 rfl in_X9 (by decide) g_fl_X9_23 (fun _ h9 => h9) rfl ?_
      refine v_iload_n C dX9_singleSize_20 rfl rfl ?_
      refine m_lld C hM dX9_singleSize_21 5 o (by decide) (show _ < 40 by omega) rfl ?_
      refine v_lc_lt (tgt := 44) C dX9_singleSize_22 dX9_singleSize_23 (by decide) (fun c_22 => absurd c_22 hb) (fun c_22 => ?_)
      refine v_aload_n C dX9_singleSize_26 rfl rfl ?_
      refine v_get C dX9_singleSize_27 6 hM.1 rfl in_X9 (by decide) g_fl_X9_26 (fun _ h9 => h9) rfl ?_
      refine v_iload_n C dX9_singleSize_30 rfl rfl ?_
      refine m_lld C hM dX9_singleSize_31 6 o (by decide) (show _ < 40 by omega) rfl ?_
      refine v_aload_n C dX9_singleSize_32 rfl rfl ?_
      refine v_get C dX9_singleSize_33 5 hM.1 rfl in_X9 (by decide) g_fl_X9_23 (fun _ h9 => h9) rfl ?_
      refine v_iload_n C dX9_singleSize_36 rfl rfl ?_
      refine m_lld C hM dX9_singleSize_37 5 o (by decide) (show _ < 40 by omega) rfl ?_
      refine v_lsub C dX9_singleSize_38 ?_
      refine v_lconst (v := 1) C dX9_singleSize_39 (by decide) ?_
      refine v_ladd C dX9_singleSize_40 ?_
      refine v_goto (tgt := 67) C dX9_singleSize_41 (by decide) ?_
      exact v_lret C hr hlk dX9_singleSize_67 (Nat.le_refl _) (Nat.le_refl _) ⟨ss2 (kd := A 1 o) (sp := A 7 o) (a := L 5 o) (b := L 6 o) hq hk hb, rfl⟩
  · by_cases hs : A 7 o ≤ 0
    · have hs2 := up_neg hs
      have hst := st_dn hq hk hs2
      simp only [sgM] at hst
      by_cases hb : L 5 o < L 6 o
      · refine v_aload_n C dX9_singleSize_0 rfl rfl ?_
        refine v_get C dX9_singleSize_1 1 hM.1 rfl in_X9 (by decide) g_fl_X9_7 (fun _ h9 => h9) rfl ?_
        refine v_iload_n C dX9_singleSize_4 rfl rfl ?_
        refine m_ild C hM dX9_singleSize_5 1 o (by decide) (show _ < 40 by omega) rfl ?_
        refine v_iconst (v := 2) C dX9_singleSize_6 (by decide) ?_
        refine v_icmp_ne (tgt := 68) C dX9_singleSize_7 (by decide) (fun c_7 => ?_) (fun c_7 => absurd c_7 hk)
        refine v_aload_n C dX9_singleSize_68 rfl rfl ?_
        refine v_get C dX9_singleSize_69 7 hM.1 rfl in_X9 (by decide) g_fl_X9_29 (fun _ h9 => h9) rfl ?_
        refine v_iload_n C dX9_singleSize_72 rfl rfl ?_
        refine m_ild C hM dX9_singleSize_73 7 o (by decide) (show _ < 40 by omega) rfl ?_
        refine v_if_le (tgt := 81) C dX9_singleSize_74 (by decide) (fun c_74 => ?_) (fun c_74 => absurd hs c_74)
        refine v_iconst (v := 0) C dX9_singleSize_81 (by decide) ?_
        refine v_istore_n C dX9_singleSize_82 rfl (by decide) rfl ?_
        refine v_iload_n C dX9_singleSize_83 rfl rfl ?_
        refine v_if_eq (tgt := 96) C dX9_singleSize_84 (by decide) (fun _ => ?_) (fun c_84 => absurd c_84 (by decide))
        refine v_aload_n C dX9_singleSize_96 rfl rfl ?_
        refine v_get C dX9_singleSize_97 6 hM.1 rfl in_X9 (by decide) g_fl_X9_26 (fun _ h9 => h9) rfl ?_
        refine v_iload_n C dX9_singleSize_100 rfl rfl ?_
        refine m_lld C hM dX9_singleSize_101 6 o (by decide) (show _ < 40 by omega) rfl ?_
        refine v_lstore_n C dX9_singleSize_102 rfl (by decide) rfl ?_
        refine v_iload_n C dX9_singleSize_103 rfl rfl ?_
        refine v_if_eq (tgt := 116) C dX9_singleSize_104 (by decide) (fun _ => ?_) (fun c_104 => absurd c_104 (by decide))
        refine v_aload_n C dX9_singleSize_116 rfl rfl ?_
        refine v_get C dX9_singleSize_117 5 hM.1 rfl in_X9 (by decide) g_fl_X9_23 (fun _ h9 => h9) rfl ?_
        refine v_iload_n C dX9_singleSize_120 rfl rfl ?_
        refine m_lld C hM dX9_singleSize_121 5 o (by decide) (show _ < 40 by omega) rfl ?_
        refine v_lstore C dX9_singleSize_122 (by decide) rfl ?_
        refine v_lload C dX9_singleSize_124 rfl ?_
        refine v_lload_n C dX9_singleSize_126 rfl rfl ?_
        refine v_lc_ge (tgt := 133) C dX9_singleSize_127 dX9_singleSize_128 (by decide) (fun c_127 => absurd c_127 (fun h9 => by rw [l_le] at h9; rw [l_lt] at hb; omega)) (fun c_127 => ?_)
        refine v_lconst (v := 0) C dX9_singleSize_131 (by decide) ?_
        exact v_lret C hr hlk dX9_singleSize_132 (Nat.le_refl _) (Nat.le_refl _) ⟨by rw [l_lt] at hb; rw [show cntS (sgM A L o) = 0 by unfold cntS sgM; rw [if_neg hk, if_neg hs2, if_pos hb]]; rfl, rfl⟩
      · have hcnt : cntS (sgM A L o) = uN (L 5 o - L 6 o) / (-(A 7 o).toInt64).toInt.toNat + 1 := cnt_dn hq hk hs2 (by rw [l_lt] at hb; exact hb)
        refine v_aload_n C dX9_singleSize_0 rfl rfl ?_
        refine v_get C dX9_singleSize_1 1 hM.1 rfl in_X9 (by decide) g_fl_X9_7 (fun _ h9 => h9) rfl ?_
        refine v_iload_n C dX9_singleSize_4 rfl rfl ?_
        refine m_ild C hM dX9_singleSize_5 1 o (by decide) (show _ < 40 by omega) rfl ?_
        refine v_iconst (v := 2) C dX9_singleSize_6 (by decide) ?_
        refine v_icmp_ne (tgt := 68) C dX9_singleSize_7 (by decide) (fun c_7 => ?_) (fun c_7 => absurd c_7 hk)
        refine v_aload_n C dX9_singleSize_68 rfl rfl ?_
        refine v_get C dX9_singleSize_69 7 hM.1 rfl in_X9 (by decide) g_fl_X9_29 (fun _ h9 => h9) rfl ?_
        refine v_iload_n C dX9_singleSize_72 rfl rfl ?_
        refine m_ild C hM dX9_singleSize_73 7 o (by decide) (show _ < 40 by omega) rfl ?_
        refine v_if_le (tgt := 81) C dX9_singleSize_74 (by decide) (fun c_74 => ?_) (fun c_74 => absurd hs c_74)
        refine v_iconst (v := 0) C dX9_singleSize_81 (by decide) ?_
        refine v_istore_n C dX9_singleSize_82 rfl (by decide) rfl ?_
        refine v_iload_n C dX9_singleSize_83 rfl rfl ?_
        refine v_if_eq (tgt := 96) C dX9_singleSize_84 (by decide) (fun _ => ?_) (fun c_84 => absurd c_84 (by decide))
        refine v_aload_n C dX9_singleSize_96 rfl rfl ?_
        refine v_get C dX9_singleSize_97 6 hM.1 rfl in_X9 (by decide) g_fl_X9_26 (fun _ h9 => h9) rfl ?_
        refine v_iload_n C dX9_singleSize_100 rfl rfl ?_
        refine m_lld C hM dX9_singleSize_101 6 o (by decide) (show _ < 40 by omega) rfl ?_
        refine v_lstore_n C dX9_singleSize_102 rfl (by decide) rfl ?_
        refine v_iload_n C dX9_singleSize_103 rfl rfl ?_
        refine v_if_eq (tgt := 116) C dX9_singleSize_104 (by decide) (fun _ => ?_) (fun c_104 => absurd c_104 (by decide))
        refine v_aload_n C dX9_singleSize_116 rfl rfl ?_
        refine v_get C dX9_singleSize_117 5 hM.1 rfl in_X9 (by decide) g_fl_X9_23 (fun _ h9 => h9) rfl ?_
        refine v_iload_n C dX9_singleSize_120 rfl rfl ?_
        refine m_lld C hM dX9_singleSize_121 5 o (by decide) (show _ < 40 by omega) rfl ?_
        refine v_lstore C dX9_singleSize_122 (by decide) rfl ?_
        refine v_lload C dX9_singleSize_124 rfl ?_
        refine v_lload_n C dX9_singleSize_126 rfl rfl ?_
        refine v_lc_ge (tgt := 133) C dX9_singleSize_127 dX9_singleSize_128 (by decide) (fun c_127 => ?_) (fun c_127 => absurd (by rw [l_le]; rw [l_lt] at hb; omega) c_127)
        refine v_lload_n C dX9_singleSize_133 rfl rfl ?_
        refine v_lload C dX9_singleSize_134 rfl ?_
        refine v_iload_n C dX9_singleSize_136 rfl rfl ?_
        refine v_if_eq (tgt := 150) C dX9_singleSize_137 (by decide) (fun _ => ?_) (fun c_137 => absurd c_137 (by decide))
        refine v_aload_n C dX9_singleSize_150 rfl rfl ?_
        refine v_get C dX9_singleSize_151 7 hM.1 rfl in_X9 (by decide) g_fl_X9_29 (fun _ h9 => h9) rfl ?_
        refine v_iload_n C dX9_singleSize_154 rfl rfl ?_
        refine m_ild C hM dX9_singleSize_155 7 o (by decide) (show _ < 40 by omega) rfl ?_
        refine v_i2l C dX9_singleSize_156 ?_
        refine v_lneg C dX9_singleSize_157 ?_
        refine v_cl (r_S C (m_stepsUp l D B K _ _ _ _ hst.1 hst.2.1) dX9_singleSize_158 g_ml_X9_72 g_st_yX9_stepsUp g_in_X9 g_cd_yX9_stepsUp (rn_le (by decide)) (by decide) rfl hdn_yX9_stepsUp (Nat.le_of_ble_eq_true rfl) ⟨Nat.le_of_ble_eq_true rfl, Nat.le_of_ble_eq_true rfl⟩) (fun r_158 f_158 hp_158 => ?_)
        obtain ⟨rfl, rfl⟩ := hp_158
        refine v_lstore C dX9_singleSize_161 (by decide) rfl ?_
        refine v_lload C dX9_singleSize_163 rfl ?_
        refine v_lconst (v := 0) C dX9_singleSize_165 (by decide) ?_
        refine v_lc_lt (tgt := 179) C dX9_singleSize_166 dX9_singleSize_167 (by decide) (fun c_166 => ?_) (fun c_166 => ?_)
        · refine v_ldc2 C dX9_singleSize_179 g_kl_X9_68 ?_
          refine v_goto (tgt := 189) C dX9_singleSize_182 (by decide) ?_
          exact v_lret C hr hlk dX9_singleSize_189 (Nat.le_refl _) (Nat.le_refl _) ⟨by rw [hcnt, ← nx_sat]; rw [if_pos c_166], rfl⟩
        · refine v_lload C dX9_singleSize_170 rfl ?_
          refine v_ldc2 C dX9_singleSize_172 g_kl_X9_76 ?_
          refine v_lc_ne (tgt := 185) C dX9_singleSize_175 dX9_singleSize_176 (by decide) (fun c_175 => ?_) (fun c_175 => ?_)
          · refine v_lload C dX9_singleSize_185 rfl ?_
            refine v_lconst (v := 1) C dX9_singleSize_187 (by decide) ?_
            refine v_ladd C dX9_singleSize_188 ?_
            exact v_lret C hr hlk dX9_singleSize_189 (Nat.le_refl _) (Nat.le_refl _) ⟨by rw [hcnt, ← nx_sat]; rw [if_neg c_166, if_neg c_175], rfl⟩
          · refine v_ldc2 C dX9_singleSize_179 g_kl_X9_68 ?_
            refine v_goto (tgt := 189) C dX9_singleSize_182 (by decide) ?_
            exact v_lret C hr hlk dX9_singleSize_189 (Nat.le_refl _) (Nat.le_refl _) ⟨by rw [hcnt, ← nx_sat]; rw [if_neg c_166, if_pos c_175], rfl⟩
    · have hs2 := up_pos hs
      have hst := st_up hq hk hs2
      simp only [sgM] at hst
      by_cases hb : L 6 o < L 5 o
      · refine v_aload_n C dX9_singleSize_0 rfl rfl ?_
        refine v_get C dX9_singleSize_1 1 hM.1 rfl in_X9 (by decide) g_fl_X9_7 (fun _ h9 => h9) rfl ?_
        refine v_iload_n C dX9_singleSize_4 rfl rfl ?_
        refine m_ild C hM dX9_singleSize_5 1 o (by decide) (show _ < 40 by omega) rfl ?_
        refine v_iconst (v := 2) C dX9_singleSize_6 (by decide) ?_
        refine v_icmp_ne (tgt := 68) C dX9_singleSize_7 (by decide) (fun c_7 => ?_) (fun c_7 => absurd c_7 hk)
        refine v_aload_n C dX9_singleSize_68 rfl rfl ?_
        refine v_get C dX9_singleSize_69 7 hM.1 rfl in_X9 (by decide) g_fl_X9_29 (fun _ h9 => h9) rfl ?_
        refine v_iload_n C dX9_singleSize_72 rfl rfl ?_
        refine m_ild C hM dX9_singleSize_73 7 o (by decide) (show _ < 40 by omega) rfl ?_
        refine v_if_le (tgt := 81) C dX9_singleSize_74 (by decide) (fun c_74 => absurd c_74 hs) (fun c_74 => ?_)
        refine v_iconst (v := 1) C dX9_singleSize_77 (by decide) ?_
        refine v_goto (tgt := 82) C dX9_singleSize_78 (by decide) ?_
        refine v_istore_n C dX9_singleSize_82 rfl (by decide) rfl ?_
        refine v_iload_n C dX9_singleSize_83 rfl rfl ?_
        refine v_if_eq (tgt := 96) C dX9_singleSize_84 (by decide) (fun c_84 => absurd c_84 (by decide)) (fun _ => ?_)
        refine v_aload_n C dX9_singleSize_87 rfl rfl ?_
        refine v_get C dX9_singleSize_88 5 hM.1 rfl in_X9 (by decide) g_fl_X9_23 (fun _ h9 => h9) rfl ?_
        refine v_iload_n C dX9_singleSize_91 rfl rfl ?_
        refine m_lld C hM dX9_singleSize_92 5 o (by decide) (show _ < 40 by omega) rfl ?_
        refine v_goto (tgt := 102) C dX9_singleSize_93 (by decide) ?_
        refine v_lstore_n C dX9_singleSize_102 rfl (by decide) rfl ?_
        refine v_iload_n C dX9_singleSize_103 rfl rfl ?_
        refine v_if_eq (tgt := 116) C dX9_singleSize_104 (by decide) (fun c_104 => absurd c_104 (by decide)) (fun _ => ?_)
        refine v_aload_n C dX9_singleSize_107 rfl rfl ?_
        refine v_get C dX9_singleSize_108 6 hM.1 rfl in_X9 (by decide) g_fl_X9_26 (fun _ h9 => h9) rfl ?_
        refine v_iload_n C dX9_singleSize_111 rfl rfl ?_
        refine m_lld C hM dX9_singleSize_112 6 o (by decide) (show _ < 40 by omega) rfl ?_
        refine v_goto (tgt := 122) C dX9_singleSize_113 (by decide) ?_
        refine v_lstore C dX9_singleSize_122 (by decide) rfl ?_
        refine v_lload C dX9_singleSize_124 rfl ?_
        refine v_lload_n C dX9_singleSize_126 rfl rfl ?_
        refine v_lc_ge (tgt := 133) C dX9_singleSize_127 dX9_singleSize_128 (by decide) (fun c_127 => absurd c_127 (fun h9 => by rw [l_le] at h9; rw [l_lt] at hb; omega)) (fun c_127 => ?_)
        refine v_lconst (v := 0) C dX9_singleSize_131 (by decide) ?_
        exact v_lret C hr hlk dX9_singleSize_132 (Nat.le_refl _) (Nat.le_refl _) ⟨by rw [l_lt] at hb; rw [show cntS (sgM A L o) = 0 by unfold cntS sgM; rw [if_neg hk, if_pos hs2, if_pos hb]]; rfl, rfl⟩
      · have hcnt : cntS (sgM A L o) = uN (L 6 o - L 5 o) / ((A 7 o).toInt64).toInt.toNat + 1 := cnt_up hq hk hs2 (by rw [l_lt] at hb; exact hb)
        refine v_aload_n C dX9_singleSize_0 rfl rfl ?_
        refine v_get C dX9_singleSize_1 1 hM.1 rfl in_X9 (by decide) g_fl_X9_7 (fun _ h9 => h9) rfl ?_
        refine v_iload_n C dX9_singleSize_4 rfl rfl ?_
        refine m_ild C hM dX9_singleSize_5 1 o (by decide) (show _ < 40 by omega) rfl ?_
        refine v_iconst (v := 2) C dX9_singleSize_6 (by decide) ?_
        refine v_icmp_ne (tgt := 68) C dX9_singleSize_7 (by decide) (fun c_7 => ?_) (fun c_7 => absurd c_7 hk)
        refine v_aload_n C dX9_singleSize_68 rfl rfl ?_
        refine v_get C dX9_singleSize_69 7 hM.1 rfl in_X9 (by decide) g_fl_X9_29 (fun _ h9 => h9) rfl ?_
        refine v_iload_n C dX9_singleSize_72 rfl rfl ?_
        refine m_ild C hM dX9_singleSize_73 7 o (by decide) (show _ < 40 by omega) rfl ?_
        refine v_if_le (tgt := 81) C dX9_singleSize_74 (by decide) (fun c_74 => absurd c_74 hs) (fun c_74 => ?_)
        refine v_iconst (v := 1) C dX9_singleSize_77 (by decide) ?_
        refine v_goto (tgt := 82) C dX9_singleSize_78 (by decide) ?_
        refine v_istore_n C dX9_singleSize_82 rfl (by decide) rfl ?_
        refine v_iload_n C dX9_singleSize_83 rfl rfl ?_
        refine v_if_eq (tgt := 96) C dX9_singleSize_84 (by decide) (fun c_84 => absurd c_84 (by decide)) (fun _ => ?_)
        refine v_aload_n C dX9_singleSize_87 rfl rfl ?_
        refine v_get C dX9_singleSize_88 5 hM.1 rfl in_X9 (by decide) g_fl_X9_23 (fun _ h9 => h9) rfl ?_
        refine v_iload_n C dX9_singleSize_91 rfl rfl ?_
        refine m_lld C hM dX9_singleSize_92 5 o (by decide) (show _ < 40 by omega) rfl ?_
        refine v_goto (tgt := 102) C dX9_singleSize_93 (by decide) ?_
        refine v_lstore_n C dX9_singleSize_102 rfl (by decide) rfl ?_
        refine v_iload_n C dX9_singleSize_103 rfl rfl ?_
        refine v_if_eq (tgt := 116) C dX9_singleSize_104 (by decide) (fun c_104 => absurd c_104 (by decide)) (fun _ => ?_)
        refine v_aload_n C dX9_singleSize_107 rfl rfl ?_
        refine v_get C dX9_singleSize_108 6 hM.1 rfl in_X9 (by decide) g_fl_X9_26 (fun _ h9 => h9) rfl ?_
        refine v_iload_n C dX9_singleSize_111 rfl rfl ?_
        refine m_lld C hM dX9_singleSize_112 6 o (by decide) (show _ < 40 by omega) rfl ?_
        refine v_goto (tgt := 122) C dX9_singleSize_113 (by decide) ?_
        refine v_lstore C dX9_singleSize_122 (by decide) rfl ?_
        refine v_lload C dX9_singleSize_124 rfl ?_
        refine v_lload_n C dX9_singleSize_126 rfl rfl ?_
        refine v_lc_ge (tgt := 133) C dX9_singleSize_127 dX9_singleSize_128 (by decide) (fun c_127 => ?_) (fun c_127 => absurd (by rw [l_le]; rw [l_lt] at hb; omega) c_127)
        refine v_lload_n C dX9_singleSize_133 rfl rfl ?_
        refine v_lload C dX9_singleSize_134 rfl ?_
        refine v_iload_n C dX9_singleSize_136 rfl rfl ?_
        refine v_if_eq (tgt := 150) C dX9_singleSize_137 (by decide) (fun c_137 => absurd c_137 (by decide)) (fun _ => ?_)
        refine v_aload_n C dX9_singleSize_140 rfl rfl ?_
        refine v_get C dX9_singleSize_141 7 hM.1 rfl in_X9 (by decide) g_fl_X9_29 (fun _ h9 => h9) rfl ?_
        refine v_iload_n C dX9_singleSize_144 rfl rfl ?_
        refine m_ild C hM dX9_singleSize_145 7 o (by decide) (show _ < 40 by omega) rfl ?_
        refine v_i2l C dX9_singleSize_146 ?_
        refine v_goto (tgt := 158) C dX9_singleSize_147 (by decide) ?_
        refine v_cl (r_S C (m_stepsUp l D B K _ _ _ _ hst.1 hst.2.1) dX9_singleSize_158 g_ml_X9_72 g_st_yX9_stepsUp g_in_X9 g_cd_yX9_stepsUp (rn_le (by decide)) (by decide) rfl hdn_yX9_stepsUp (Nat.le_of_ble_eq_true rfl) ⟨Nat.le_of_ble_eq_true rfl, Nat.le_of_ble_eq_true rfl⟩) (fun r_158 f_158 hp_158 => ?_)
        obtain ⟨rfl, rfl⟩ := hp_158
        refine v_lstore C dX9_singleSize_161 (by decide) rfl ?_
        refine v_lload C dX9_singleSize_163 rfl ?_
        refine v_lconst (v := 0) C dX9_singleSize_165 (by decide) ?_
        refine v_lc_lt (tgt := 179) C dX9_singleSize_166 dX9_singleSize_167 (by decide) (fun c_166 => ?_) (fun c_166 => ?_)
        · refine v_ldc2 C dX9_singleSize_179 g_kl_X9_68 ?_
          refine v_goto (tgt := 189) C dX9_singleSize_182 (by decide) ?_
          exact v_lret C hr hlk dX9_singleSize_189 (Nat.le_refl _) (Nat.le_refl _) ⟨by rw [hcnt, ← nx_sat]; rw [if_pos c_166], rfl⟩
        · refine v_lload C dX9_singleSize_170 rfl ?_
          refine v_ldc2 C dX9_singleSize_172 g_kl_X9_76 ?_
          refine v_lc_ne (tgt := 185) C dX9_singleSize_175 dX9_singleSize_176 (by decide) (fun c_175 => ?_) (fun c_175 => ?_)
          · refine v_lload C dX9_singleSize_185 rfl ?_
            refine v_lconst (v := 1) C dX9_singleSize_187 (by decide) ?_
            refine v_ladd C dX9_singleSize_188 ?_
            exact v_lret C hr hlk dX9_singleSize_189 (Nat.le_refl _) (Nat.le_refl _) ⟨by rw [hcnt, ← nx_sat]; rw [if_neg c_166, if_neg c_175], rfl⟩
          · refine v_ldc2 C dX9_singleSize_179 g_kl_X9_68 ?_
            refine v_goto (tgt := 189) C dX9_singleSize_182 (by decide) ?_
            exact v_lret C hr hlk dX9_singleSize_189 (Nat.le_refl _) (Nat.le_refl _) ⟨by rw [hcnt, ← nx_sat]; rw [if_neg c_166, if_pos c_175], rfl⟩

def hnM (kd sp : Int32) (a b v : Int64) : Int32 := if kd = (2 : Int32) then if (inM v (0 : Int64) ((sp - (1 : Int32)).toInt64)) = (0 : Int32) then ((0 : Int32)) else if b < a then if a ≤ v then ((1 : Int32)) else if b < v then ((0 : Int32)) else ((1 : Int32)) else if (inM v a b) = (0 : Int32) then ((0 : Int32)) else ((1 : Int32)) else if sp ≤ (0 : Int32) then if (inM v b a) = (0 : Int32) then ((0 : Int32)) else if (loM v a (-(sp.toInt64))) = (0 : Int64) then ((1 : Int32)) else ((0 : Int32)) else if (inM v a b) = (0 : Int32) then ((0 : Int32)) else if (loM v a (sp.toInt64)) = (0 : Int64) then ((1 : Int32)) else ((0 : Int32))
theorem st_ne1 {kd sp : Int32} {a b : Int64} (hq : okS (kd, a, b, sp)) (h2 : ¬ kd = 2) (hs : 0 < sp.toInt) : ¬ sp.toInt64 = 0 := fun h => by
  have h9 := congrArg Int64.toInt h
  rw [i2l_toInt] at h9
  have z : (0 : Int64).toInt = 0 := rfl
  omega
theorem st_ne2 {kd sp : Int32} {a b : Int64} (hq : okS (kd, a, b, sp)) (h2 : ¬ kd = 2) (hs : ¬ 0 < sp.toInt) : ¬ -sp.toInt64 = 0 := fun h => by
  have h9 := congrArg Int64.toInt h
  have h8 := hq.2 h2
  simp only at h8
  rw [lneg_toInt (by omega) (by omega)] at h9
  have z : (0 : Int64).toInt = 0 := rfl
  omega
set_option maxHeartbeats 4000000 in
set_option maxRecDepth 100000 in
theorem m_hasNumber0 (l : Launch) (D : va_G) (B : Nat) (K : Nat → ClassId) (f : St) (r : Nat → Nat) (f0 : St) (A : Nat → Nat → Int32) (L : Nat → Nat → Int64) (I : Nat → Int32) (o : Nat) (v : Int64) (hM : MC K r f0 f A L I) (ho : o < 40) (hq : okS (sgM A L o)) : Kc l D B K yX9_hasNumber cX9_hasNumber 7 ((some .boolean)) 1 0 0 [.ref (r 0), .int (nI o), .long v] f (Qi_ D B (fun x f9 => x = hnM (A 1 o) (A 7 o) (L 5 o) (L 6 o) v ∧ f9 = f)) := by
  refine v_met [(0, .ref (r 0)), (1, .int (nI o)), (2, .long v)] (by decide) (Nat.le_of_ble_eq_true rfl) rfl ?_
  intro p e s m args below meth c C hr hlk hin
  refine v_aload_n C dX9_hasNumber_0 rfl rfl ?_
  refine v_get C dX9_hasNumber_1 1 hM.1 rfl in_X9 (by decide) g_fl_X9_7 (fun _ h9 => h9) rfl ?_
  refine v_iload_n C dX9_hasNumber_4 rfl rfl ?_
  refine m_ild C hM dX9_hasNumber_5 1 o (by decide) (show _ < 40 by omega) rfl ?_
  refine v_iconst (v := 2) C dX9_hasNumber_6 (by decide) ?_
  refine v_icmp_ne (tgt := 97) C dX9_hasNumber_7 (by decide) (fun c_7 => ?_) (fun c_7 => ?_)
  · refine v_aload_n C dX9_hasNumber_97 rfl rfl ?_
    refine v_get C dX9_hasNumber_98 7 hM.1 rfl in_X9 (by decide) g_fl_X9_29 (fun _ h9 => h9) rfl ?_
    refine v_iload_n C dX9_hasNumber_101 rfl rfl ?_
    refine m_ild C hM dX9_hasNumber_102 7 o (by decide) (show _ < 40 by omega) rfl ?_
    refine v_if_le (tgt := 110) C dX9_hasNumber_103 (by decide) (fun c_103 => ?_) (fun c_103 => ?_)
    · refine v_iconst (v := 0) C dX9_hasNumber_110 (by decide) ?_
      refine v_istore C dX9_hasNumber_111 (by decide) rfl ?_
      refine v_lload_n C dX9_hasNumber_113 rfl rfl ?_
      refine v_iload C dX9_hasNumber_114 rfl ?_
      refine v_if_eq (tgt := 128) C dX9_hasNumber_116 (by decide) (fun _ => ?_) (fun c_116 => absurd c_116 (by decide))
      refine v_aload_n C dX9_hasNumber_128 rfl rfl ?_
      refine v_get C dX9_hasNumber_129 6 hM.1 rfl in_X9 (by decide) g_fl_X9_26 (fun _ h9 => h9) rfl ?_
      refine v_iload_n C dX9_hasNumber_132 rfl rfl ?_
      refine m_lld C hM dX9_hasNumber_133 6 o (by decide) (show _ < 40 by omega) rfl ?_
      refine v_iload C dX9_hasNumber_134 rfl ?_
      refine v_if_eq (tgt := 148) C dX9_hasNumber_136 (by decide) (fun _ => ?_) (fun c_136 => absurd c_136 (by decide))
      refine v_aload_n C dX9_hasNumber_148 rfl rfl ?_
      refine v_get C dX9_hasNumber_149 5 hM.1 rfl in_X9 (by decide) g_fl_X9_23 (fun _ h9 => h9) rfl ?_
      refine v_iload_n C dX9_hasNumber_152 rfl rfl ?_
      refine m_lld C hM dX9_hasNumber_153 5 o (by decide) (show _ < 40 by omega) rfl ?_
      refine v_ci (r_S C (m_in l D B K _ _ _ _) dX9_hasNumber_154 g_ml_X9_58 g_st_yX9_in g_in_X9 g_cd_yX9_in (rn_le (by decide)) (by decide) rfl hdn_yX9_in (Nat.le_of_ble_eq_true rfl) ⟨Nat.le_of_ble_eq_true rfl, Nat.le_of_ble_eq_true rfl⟩) (fun r_154 f_154 hp_154 => ?_)
      obtain ⟨rfl, rfl⟩ := hp_154
      refine v_if_ne (tgt := 162) C dX9_hasNumber_157 (by decide) (fun c_157 => ?_) (fun c_157 => ?_)
      · refine v_iload C dX9_hasNumber_162 rfl ?_
        refine v_if_eq (tgt := 177) C dX9_hasNumber_164 (by decide) (fun _ => ?_) (fun c_164 => absurd c_164 (by decide))
        refine v_aload_n C dX9_hasNumber_177 rfl rfl ?_
        refine v_get C dX9_hasNumber_178 7 hM.1 rfl in_X9 (by decide) g_fl_X9_29 (fun _ h9 => h9) rfl ?_
        refine v_iload_n C dX9_hasNumber_181 rfl rfl ?_
        refine m_ild C hM dX9_hasNumber_182 7 o (by decide) (show _ < 40 by omega) rfl ?_
        refine v_i2l C dX9_hasNumber_183 ?_
        refine v_lneg C dX9_hasNumber_184 ?_
        refine v_lstore C dX9_hasNumber_185 (by decide) rfl ?_
        refine v_lload_n C dX9_hasNumber_187 rfl rfl ?_
        refine v_aload_n C dX9_hasNumber_188 rfl rfl ?_
        refine v_get C dX9_hasNumber_189 5 hM.1 rfl in_X9 (by decide) g_fl_X9_23 (fun _ h9 => h9) rfl ?_
        refine v_iload_n C dX9_hasNumber_192 rfl rfl ?_
        refine m_lld C hM dX9_hasNumber_193 5 o (by decide) (show _ < 40 by omega) rfl ?_
        refine v_lload C dX9_hasNumber_194 rfl ?_
        refine v_cl (r_S C (m_leftOver l D B K _ _ _ _ (by first | exact st_ne1 (a := L 5 o) (b := L 6 o) hq c_7 (up_pos c_103) | exact st_ne2 (a := L 5 o) (b := L 6 o) hq c_7 (up_neg c_103))) dX9_hasNumber_196 g_ml_X9_94 g_st_yX9_leftOver g_in_X9 g_cd_yX9_leftOver (rn_le (by decide)) (by decide) rfl hdn_yX9_leftOver (Nat.le_of_ble_eq_true rfl) ⟨Nat.le_of_ble_eq_true rfl, Nat.le_of_ble_eq_true rfl⟩) (fun r_196 f_196 hp_196 => ?_)
        obtain ⟨rfl, rfl⟩ := hp_196
        refine v_lconst (v := 0) C dX9_hasNumber_199 (by decide) ?_
        refine v_lc_ne (tgt := 208) C dX9_hasNumber_200 dX9_hasNumber_201 (by decide) (fun c_200 => ?_) (fun c_200 => ?_)
        · refine v_iconst (v := 0) C dX9_hasNumber_208 (by decide) ?_
          exact v_zret C hr hlk dX9_hasNumber_209 rfl (Nat.le_refl _) (Nat.le_refl _) ⟨by unfold hnM; rw [if_neg c_7, if_pos c_103, if_neg c_157, if_neg c_200], rfl⟩
        · refine v_iconst (v := 1) C dX9_hasNumber_204 (by decide) ?_
          refine v_goto (tgt := 209) C dX9_hasNumber_205 (by decide) ?_
          exact v_zret C hr hlk dX9_hasNumber_209 rfl (Nat.le_refl _) (Nat.le_refl _) ⟨by unfold hnM; rw [if_neg c_7, if_pos c_103, if_neg c_157, if_pos c_200], rfl⟩
      · refine v_iconst (v := 0) C dX9_hasNumber_160 (by decide) ?_
        exact v_zret C hr hlk dX9_hasNumber_161 rfl (Nat.le_refl _) (Nat.le_refl _) ⟨by unfold hnM; rw [if_neg c_7, if_pos c_103, if_pos c_157], rfl⟩
    · refine v_iconst (v := 1) C dX9_hasNumber_106 (by decide) ?_
      refine v_goto (tgt := 111) C dX9_hasNumber_107 (by decide) ?_
      refine v_istore C dX9_hasNumber_111 (by decide) rfl ?_
      refine v_lload_n C dX9_hasNumber_113 rfl rfl ?_
      refine v_iload C dX9_hasNumber_114 rfl ?_
      refine v_if_eq (tgt := 128) C dX9_hasNumber_116 (by decide) (fun c_116 => absurd c_116 (by decide)) (fun _ => ?_)
      refine v_aload_n C dX9_hasNumber_119 rfl rfl ?_
      refine v_get C dX9_hasNumber_120 5 hM.1 rfl in_X9 (by decide) g_fl_X9_23 (fun _ h9 => h9) rfl ?_
      refine v_iload_n C dX9_hasNumber_123 rfl rfl ?_
      refine m_lld C hM dX9_hasNumber_124 5 o (by decide) (show _ < 40 by omega) rfl ?_
      refine v_goto (tgt := 134) C dX9_hasNumber_125 (by decide) ?_
      refine v_iload C dX9_hasNumber_134 rfl ?_
      refine v_if_eq (tgt := 148) C dX9_hasNumber_136 (by decide) (fun c_136 => absurd c_136 (by decide)) (fun _ => ?_)
      refine v_aload_n C dX9_hasNumber_139 rfl rfl ?_
      refine v_get C dX9_hasNumber_140 6 hM.1 rfl in_X9 (by decide) g_fl_X9_26 (fun _ h9 => h9) rfl ?_
      refine v_iload_n C dX9_hasNumber_143 rfl rfl ?_
      refine m_lld C hM dX9_hasNumber_144 6 o (by decide) (show _ < 40 by omega) rfl ?_
      refine v_goto (tgt := 154) C dX9_hasNumber_145 (by decide) ?_
      refine v_ci (r_S C (m_in l D B K _ _ _ _) dX9_hasNumber_154 g_ml_X9_58 g_st_yX9_in g_in_X9 g_cd_yX9_in (rn_le (by decide)) (by decide) rfl hdn_yX9_in (Nat.le_of_ble_eq_true rfl) ⟨Nat.le_of_ble_eq_true rfl, Nat.le_of_ble_eq_true rfl⟩) (fun r_154 f_154 hp_154 => ?_)
      obtain ⟨rfl, rfl⟩ := hp_154
      refine v_if_ne (tgt := 162) C dX9_hasNumber_157 (by decide) (fun c_157 => ?_) (fun c_157 => ?_)
      · refine v_iload C dX9_hasNumber_162 rfl ?_
        refine v_if_eq (tgt := 177) C dX9_hasNumber_164 (by decide) (fun c_164 => absurd c_164 (by decide)) (fun _ => ?_)
        refine v_aload_n C dX9_hasNumber_167 rfl rfl ?_
        refine v_get C dX9_hasNumber_168 7 hM.1 rfl in_X9 (by decide) g_fl_X9_29 (fun _ h9 => h9) rfl ?_
        refine v_iload_n C dX9_hasNumber_171 rfl rfl ?_
        refine m_ild C hM dX9_hasNumber_172 7 o (by decide) (show _ < 40 by omega) rfl ?_
        refine v_i2l C dX9_hasNumber_173 ?_
        refine v_goto (tgt := 185) C dX9_hasNumber_174 (by decide) ?_
        refine v_lstore C dX9_hasNumber_185 (by decide) rfl ?_
        refine v_lload_n C dX9_hasNumber_187 rfl rfl ?_
        refine v_aload_n C dX9_hasNumber_188 rfl rfl ?_
        refine v_get C dX9_hasNumber_189 5 hM.1 rfl in_X9 (by decide) g_fl_X9_23 (fun _ h9 => h9) rfl ?_
        refine v_iload_n C dX9_hasNumber_192 rfl rfl ?_
        refine m_lld C hM dX9_hasNumber_193 5 o (by decide) (show _ < 40 by omega) rfl ?_
        refine v_lload C dX9_hasNumber_194 rfl ?_
        refine v_cl (r_S C (m_leftOver l D B K _ _ _ _ (by first | exact st_ne1 (a := L 5 o) (b := L 6 o) hq c_7 (up_pos c_103) | exact st_ne2 (a := L 5 o) (b := L 6 o) hq c_7 (up_neg c_103))) dX9_hasNumber_196 g_ml_X9_94 g_st_yX9_leftOver g_in_X9 g_cd_yX9_leftOver (rn_le (by decide)) (by decide) rfl hdn_yX9_leftOver (Nat.le_of_ble_eq_true rfl) ⟨Nat.le_of_ble_eq_true rfl, Nat.le_of_ble_eq_true rfl⟩) (fun r_196 f_196 hp_196 => ?_)
        obtain ⟨rfl, rfl⟩ := hp_196
        refine v_lconst (v := 0) C dX9_hasNumber_199 (by decide) ?_
        refine v_lc_ne (tgt := 208) C dX9_hasNumber_200 dX9_hasNumber_201 (by decide) (fun c_200 => ?_) (fun c_200 => ?_)
        · refine v_iconst (v := 0) C dX9_hasNumber_208 (by decide) ?_
          exact v_zret C hr hlk dX9_hasNumber_209 rfl (Nat.le_refl _) (Nat.le_refl _) ⟨by unfold hnM; rw [if_neg c_7, if_neg c_103, if_neg c_157, if_neg c_200], rfl⟩
        · refine v_iconst (v := 1) C dX9_hasNumber_204 (by decide) ?_
          refine v_goto (tgt := 209) C dX9_hasNumber_205 (by decide) ?_
          exact v_zret C hr hlk dX9_hasNumber_209 rfl (Nat.le_refl _) (Nat.le_refl _) ⟨by unfold hnM; rw [if_neg c_7, if_neg c_103, if_neg c_157, if_pos c_200], rfl⟩
      · refine v_iconst (v := 0) C dX9_hasNumber_160 (by decide) ?_
        exact v_zret C hr hlk dX9_hasNumber_161 rfl (Nat.le_refl _) (Nat.le_refl _) ⟨by unfold hnM; rw [if_neg c_7, if_neg c_103, if_pos c_157], rfl⟩
  · refine v_lload_n C dX9_hasNumber_10 rfl rfl ?_
    refine v_lconst (v := 0) C dX9_hasNumber_11 (by decide) ?_
    refine v_aload_n C dX9_hasNumber_12 rfl rfl ?_
    refine v_get C dX9_hasNumber_13 7 hM.1 rfl in_X9 (by decide) g_fl_X9_29 (fun _ h9 => h9) rfl ?_
    refine v_iload_n C dX9_hasNumber_16 rfl rfl ?_
    refine m_ild C hM dX9_hasNumber_17 7 o (by decide) (show _ < 40 by omega) rfl ?_
    refine v_iconst (v := 1) C dX9_hasNumber_18 (by decide) ?_
    refine v_isub C dX9_hasNumber_19 ?_
    refine v_i2l C dX9_hasNumber_20 ?_
    refine v_ci (r_S C (m_in l D B K _ _ _ _) dX9_hasNumber_21 g_ml_X9_58 g_st_yX9_in g_in_X9 g_cd_yX9_in (rn_le (by decide)) (by decide) rfl hdn_yX9_in (Nat.le_of_ble_eq_true rfl) ⟨Nat.le_of_ble_eq_true rfl, Nat.le_of_ble_eq_true rfl⟩) (fun r_21 f_21 hp_21 => ?_)
    obtain ⟨rfl, rfl⟩ := hp_21
    refine v_istore C dX9_hasNumber_24 (by decide) rfl ?_
    refine v_iload C dX9_hasNumber_26 rfl ?_
    refine v_if_eq (tgt := 95) C dX9_hasNumber_28 (by decide) (fun c_28 => ?_) (fun c_28 => ?_)
    · refine v_iconst (v := 0) C dX9_hasNumber_95 (by decide) ?_
      exact v_zret C hr hlk dX9_hasNumber_96 rfl (Nat.le_refl _) (Nat.le_refl _) ⟨by unfold hnM; rw [if_pos c_7, if_pos c_28], rfl⟩
    · refine v_aload_n C dX9_hasNumber_31 rfl rfl ?_
      refine v_get C dX9_hasNumber_32 6 hM.1 rfl in_X9 (by decide) g_fl_X9_26 (fun _ h9 => h9) rfl ?_
      refine v_iload_n C dX9_hasNumber_35 rfl rfl ?_
      refine m_lld C hM dX9_hasNumber_36 6 o (by decide) (show _ < 40 by omega) rfl ?_
      refine v_aload_n C dX9_hasNumber_37 rfl rfl ?_
      refine v_get C dX9_hasNumber_38 5 hM.1 rfl in_X9 (by decide) g_fl_X9_23 (fun _ h9 => h9) rfl ?_
      refine v_iload_n C dX9_hasNumber_41 rfl rfl ?_
      refine m_lld C hM dX9_hasNumber_42 5 o (by decide) (show _ < 40 by omega) rfl ?_
      refine v_lc_lt (tgt := 69) C dX9_hasNumber_43 dX9_hasNumber_44 (by decide) (fun c_43 => ?_) (fun c_43 => ?_)
      · refine v_lload_n C dX9_hasNumber_69 rfl rfl ?_
        refine v_aload_n C dX9_hasNumber_70 rfl rfl ?_
        refine v_get C dX9_hasNumber_71 5 hM.1 rfl in_X9 (by decide) g_fl_X9_23 (fun _ h9 => h9) rfl ?_
        refine v_iload_n C dX9_hasNumber_74 rfl rfl ?_
        refine m_lld C hM dX9_hasNumber_75 5 o (by decide) (show _ < 40 by omega) rfl ?_
        refine v_lc_ge (tgt := 91) C dX9_hasNumber_76 dX9_hasNumber_77 (by decide) (fun c_76 => ?_) (fun c_76 => ?_)
        · refine v_iconst (v := 1) C dX9_hasNumber_91 (by decide) ?_
          refine v_goto (tgt := 96) C dX9_hasNumber_92 (by decide) ?_
          exact v_zret C hr hlk dX9_hasNumber_96 rfl (Nat.le_refl _) (Nat.le_refl _) ⟨by unfold hnM; rw [if_pos c_7, if_neg c_28, if_pos c_43, if_pos c_76], rfl⟩
        · refine v_lload_n C dX9_hasNumber_80 rfl rfl ?_
          refine v_aload_n C dX9_hasNumber_81 rfl rfl ?_
          refine v_get C dX9_hasNumber_82 6 hM.1 rfl in_X9 (by decide) g_fl_X9_26 (fun _ h9 => h9) rfl ?_
          refine v_iload_n C dX9_hasNumber_85 rfl rfl ?_
          refine m_lld C hM dX9_hasNumber_86 6 o (by decide) (show _ < 40 by omega) rfl ?_
          refine v_lc_gt (tgt := 95) C dX9_hasNumber_87 dX9_hasNumber_88 (by decide) (fun c_87 => ?_) (fun c_87 => ?_)
          · refine v_iconst (v := 0) C dX9_hasNumber_95 (by decide) ?_
            exact v_zret C hr hlk dX9_hasNumber_96 rfl (Nat.le_refl _) (Nat.le_refl _) ⟨by unfold hnM; rw [if_pos c_7, if_neg c_28, if_pos c_43, if_neg c_76, if_pos c_87], rfl⟩
          · refine v_iconst (v := 1) C dX9_hasNumber_91 (by decide) ?_
            refine v_goto (tgt := 96) C dX9_hasNumber_92 (by decide) ?_
            exact v_zret C hr hlk dX9_hasNumber_96 rfl (Nat.le_refl _) (Nat.le_refl _) ⟨by unfold hnM; rw [if_pos c_7, if_neg c_28, if_pos c_43, if_neg c_76, if_neg c_87], rfl⟩
      · refine v_lload_n C dX9_hasNumber_47 rfl rfl ?_
        refine v_aload_n C dX9_hasNumber_48 rfl rfl ?_
        refine v_get C dX9_hasNumber_49 5 hM.1 rfl in_X9 (by decide) g_fl_X9_23 (fun _ h9 => h9) rfl ?_
        refine v_iload_n C dX9_hasNumber_52 rfl rfl ?_
        refine m_lld C hM dX9_hasNumber_53 5 o (by decide) (show _ < 40 by omega) rfl ?_
        refine v_aload_n C dX9_hasNumber_54 rfl rfl ?_
        refine v_get C dX9_hasNumber_55 6 hM.1 rfl in_X9 (by decide) g_fl_X9_26 (fun _ h9 => h9) rfl ?_
        refine v_iload_n C dX9_hasNumber_58 rfl rfl ?_
        refine m_lld C hM dX9_hasNumber_59 6 o (by decide) (show _ < 40 by omega) rfl ?_
        refine v_ci (r_S C (m_in l D B K _ _ _ _) dX9_hasNumber_60 g_ml_X9_58 g_st_yX9_in g_in_X9 g_cd_yX9_in (rn_le (by decide)) (by decide) rfl hdn_yX9_in (Nat.le_of_ble_eq_true rfl) ⟨Nat.le_of_ble_eq_true rfl, Nat.le_of_ble_eq_true rfl⟩) (fun r_60 f_60 hp_60 => ?_)
        obtain ⟨rfl, rfl⟩ := hp_60
        refine v_if_eq (tgt := 95) C dX9_hasNumber_63 (by decide) (fun c_63 => ?_) (fun c_63 => ?_)
        · refine v_iconst (v := 0) C dX9_hasNumber_95 (by decide) ?_
          exact v_zret C hr hlk dX9_hasNumber_96 rfl (Nat.le_refl _) (Nat.le_refl _) ⟨by unfold hnM; rw [if_pos c_7, if_neg c_28, if_neg c_43, if_pos c_63], rfl⟩
        · refine v_goto (tgt := 91) C dX9_hasNumber_66 (by decide) ?_
          refine v_iconst (v := 1) C dX9_hasNumber_91 (by decide) ?_
          refine v_goto (tgt := 96) C dX9_hasNumber_92 (by decide) ?_
          exact v_zret C hr hlk dX9_hasNumber_96 rfl (Nat.le_refl _) (Nat.le_refl _) ⟨by unfold hnM; rw [if_pos c_7, if_neg c_28, if_neg c_43, if_neg c_63], rfl⟩

theorem hn_eq {kd sp : Int32} {a b : Int64} (hq : okS (kd, a, b, sp)) (v : Int64) : hnM kd sp a b v = bI (posS (kd, a, b, sp) v).isSome := by
  unfold hnM posS
  by_cases h2 : kd = 2
  · obtain ⟨b1, b2, b3, b4, b5, b6⟩ := hq.1 h2
    simp only at b1 b2 b3 b4 b5 b6
    have e1 : ((sp - 1).toInt64).toInt = sp.toInt - 1 := by
      rw [i2l_toInt, Int32.toInt_sub]
      exact Int.bmod_eq_of_le (by show _ ≤ sp.toInt - 1; omega) (by show sp.toInt - 1 < _; omega)
    have z : (0 : Int64).toInt = 0 := rfl
    simp only [if_pos h2, in_0, l_lt, l_le, e1, z]
    by_cases c1 : 0 ≤ v.toInt ∧ v.toInt ≤ sp.toInt - 1
    · rw [if_neg (fun h => h c1)]
      by_cases c2 : b.toInt < a.toInt
      · rw [if_pos c2]
        by_cases c3 : a.toInt ≤ v.toInt
        · rw [if_pos c3, if_pos (show _ ∧ _ from ⟨by omega, by omega, fun h => by omega, fun _ => Or.inl c3⟩)]; rfl
        · rw [if_neg c3]
          by_cases c4 : b.toInt < v.toInt
          · rw [if_pos c4, if_neg (fun h => by have h5 := h.2.2.2 (by omega); omega)]; rfl
          · rw [if_neg c4, if_pos (show _ ∧ _ from ⟨by omega, by omega, fun h => by omega, fun _ => Or.inr (by omega)⟩)]; rfl
      · rw [if_neg c2]
        by_cases c3 : a.toInt ≤ v.toInt ∧ v.toInt ≤ b.toInt
        · rw [if_neg (fun h => h c3), if_pos (show _ ∧ _ from ⟨by omega, by omega, fun h => c3, fun h => by omega⟩)]; rfl
        · rw [if_pos c3, if_neg (fun h => c3 (h.2.2.1 (by omega)))]; rfl
    · rw [if_pos c1, if_neg (fun h => c1 ⟨h.1, by omega⟩)]; rfl
  · obtain ⟨b1, b2, b3⟩ := hq.2 h2
    simp only at b1 b2 b3
    simp only [if_neg h2, in_0, l_eq0]
    by_cases hs : sp ≤ 0
    · have hs2 := up_neg hs
      rw [if_pos hs, if_neg hs2]
      have hlo : (loM v a (-sp.toInt64)).toInt = (v.toInt - a.toInt) % (-sp.toInt) := by
        rw [lo_eq (by rw [lneg_toInt b2 b3]; omega) (by rw [lneg_toInt b2 b3]; omega), lneg_toInt b2 b3]
      rw [hlo]
      have hz : (v.toInt - a.toInt) % (-sp.toInt) = 0 ↔ (a.toInt - v.toInt) % (-sp.toInt) = 0 := by
        rw [← Int.dvd_iff_emod_eq_zero, ← Int.dvd_iff_emod_eq_zero, ← Int.dvd_neg, Int.neg_sub]
      by_cases c1 : b.toInt ≤ v.toInt ∧ v.toInt ≤ a.toInt
      · rw [if_neg (fun h => h c1)]
        by_cases c2 : (a.toInt - v.toInt) % (-sp.toInt) = 0
        · rw [if_pos (hz.mpr c2), if_pos (show _ ∧ _ from ⟨c1.1, c1.2, c2⟩)]; rfl
        · rw [if_neg (fun h => c2 (hz.mp h)), if_neg (fun h => c2 h.2.2)]; rfl
      · rw [if_pos c1, if_neg (fun h => c1 ⟨h.1, h.2.1⟩)]; rfl
    · have hs2 := up_pos hs
      rw [if_neg hs, if_pos hs2]
      have hlo : (loM v a sp.toInt64).toInt = (v.toInt - a.toInt) % sp.toInt := by
        rw [lo_eq (by rw [i2l_toInt]; omega) (by rw [i2l_toInt]; omega), i2l_toInt]
      rw [hlo]
      by_cases c1 : a.toInt ≤ v.toInt ∧ v.toInt ≤ b.toInt
      · rw [if_neg (fun h => h c1)]
        by_cases c2 : (v.toInt - a.toInt) % sp.toInt = 0
        · rw [if_pos c2, if_pos (show _ ∧ _ from ⟨c1.1, c1.2, c2⟩)]; rfl
        · rw [if_neg c2, if_neg (fun h => c2 h.2.2)]; rfl
      · rw [if_pos c1, if_neg (fun h => c1 ⟨h.1, h.2.1⟩)]; rfl
theorem m_hasNumber (l : Launch) (D : va_G) (B : Nat) (K : Nat → ClassId) (f : St) (r : Nat → Nat) (f0 : St) (A : Nat → Nat → Int32) (L : Nat → Nat → Int64) (I : Nat → Int32) (o : Nat) (v : Int64) (hM : MC K r f0 f A L I) (ho : o < 40) (hq : okS (sgM A L o)) : Kc l D B K yX9_hasNumber cX9_hasNumber 7 (some .boolean) 1 0 0 [.ref (r 0), .int (nI o), .long v] f (Qi_ D B (fun x f9 => x = bI (posS (sgM A L o) v).isSome ∧ f9 = f)) := by
  have h := m_hasNumber0 l D B K f r f0 A L I o v hM ho hq
  rw [hn_eq hq] at h
  exact h
theorem po1 {kd sp : Int32} {a b v : Int64} {k : Nat} (hq : okS (kd, a, b, sp)) (h2 : kd = 2) (hp : posS (kd, a, b, sp) v = some k) (hb : v < a) : v + sp.toInt64 - a = sat k := by
  obtain ⟨b1, b2, b3, b4, b5, b6⟩ := hq.1 h2
  simp only at b1 b2 b3 b4 b5 b6
  unfold posS at hp
  simp only [if_pos h2] at hp
  rw [l_lt] at hb
  split at hp
  · rename_i h3
    have hp := Option.some.inj hp
    rw [if_neg (by omega)] at hp
    have e1 : (v + sp.toInt64).toInt = v.toInt + sp.toInt := by rw [l_add_toInt (by rw [i2l_toInt]; omega) (by rw [i2l_toInt]; omega), i2l_toInt]
    exact l_eq_sat (by rw [l_sub_toInt (by omega) (by omega), e1]; omega) (by omega)
  · cases hp
theorem po2 {kd sp : Int32} {a b v : Int64} {k : Nat} (hq : okS (kd, a, b, sp)) (h2 : kd = 2) (hp : posS (kd, a, b, sp) v = some k) (hb : ¬ v < a) : v - a = sat k := by
  obtain ⟨b1, b2, b3, b4, b5, b6⟩ := hq.1 h2
  simp only at b1 b2 b3 b4 b5 b6
  unfold posS at hp
  simp only [if_pos h2] at hp
  rw [l_lt] at hb
  split at hp
  · rename_i h3
    have hp := Option.some.inj hp
    rw [if_pos (by omega)] at hp
    exact l_eq_sat (by rw [l_sub_toInt (by omega) (by omega)]; omega) (by omega)
  · cases hp
theorem po3 {kd sp : Int32} {a b v : Int64} {k : Nat} (hq : okS (kd, a, b, sp)) (h2 : ¬ kd = 2) (hs : 0 < sp.toInt) (hp : posS (kd, a, b, sp) v = some k) : uN (v - a) / sp.toInt64.toInt.toNat = k := by
  unfold posS at hp
  simp only [if_neg h2, if_pos hs] at hp
  split at hp
  · rename_i h3
    have hp := Option.some.inj hp
    rw [nat_ediv (W := sp.toInt) (uN_dist (by omega)) (by rw [i2l_toInt]; exact Int.toNat_of_nonneg (by omega))]
    exact hp
  · cases hp
theorem po4 {kd sp : Int32} {a b v : Int64} {k : Nat} (hq : okS (kd, a, b, sp)) (h2 : ¬ kd = 2) (hs : ¬ 0 < sp.toInt) (hp : posS (kd, a, b, sp) v = some k) : uN (a - v) / (-sp.toInt64).toInt.toNat = k := by
  have h := st_dn hq h2 hs
  simp only at h
  unfold posS at hp
  simp only [if_neg h2, if_neg hs] at hp
  split at hp
  · rename_i h3
    have hp := Option.some.inj hp
    rw [nat_ediv (W := -sp.toInt) (uN_dist (by omega)) (by rw [h.2.2]; exact Int.toNat_of_nonneg (by omega))]
    exact hp
  · cases hp
set_option maxHeartbeats 4000000 in
set_option maxRecDepth 100000 in
theorem m_placeOf (l : Launch) (D : va_G) (B : Nat) (K : Nat → ClassId) (f : St) (r : Nat → Nat) (f0 : St) (A : Nat → Nat → Int32) (L : Nat → Nat → Int64) (I : Nat → Int32) (o : Nat) (v : Int64) (k : Nat) (hM : MC K r f0 f A L I) (ho : o < 40) (hq : okS (sgM A L o)) (hp : posS (sgM A L o) v = some k) : Kc l D B K yX9_placeOf cX9_placeOf 5 ((some .long)) 1 0 0 [.ref (r 0), .int (nI o), .long v] f (Ql_ D B (fun x f9 => x = sat k ∧ f9 = f)) := by
  refine v_met [(0, .ref (r 0)), (1, .int (nI o)), (2, .long v)] (by decide) (Nat.le_of_ble_eq_true rfl) rfl ?_
  intro p e s m args below meth c C hr hlk hin
  by_cases hk : A 1 o = 2
  · by_cases hb : v < L 5 o
    · refine v_aload_n C dX9_placeOf_0 rfl rfl ?_
      refine v_get C dX9_placeOf_1 1 hM.1 rfl in_X9 (by decide) g_fl_X9_7 (fun _ h9 => h9) rfl ?_
      refine v_iload_n C dX9_placeOf_4 rfl rfl ?_
      refine m_ild C hM dX9_placeOf_5 1 o (by decide) (show _ < 40 by omega) rfl ?_
      refine v_iconst (v := 2) C dX9_placeOf_6 (by decide) ?_
      refine v_icmp_ne (tgt := 49) C dX9_placeOf_7 (by decide) (fun c_7 => absurd hk c_7) (fun c_7 => ?_)
      refine v_lload_n C dX9_placeOf_10 rfl rfl ?_
      refine v_aload_n C dX9_placeOf_11 rfl rfl ?_
      refine v_get C dX9_placeOf_12 5 hM.1 rfl in_X9 (by decide) g_fl_X9_23 (fun _ h9 => h9) rfl ?_
      refine v_iload_n C dX9_placeOf_15 rfl rfl ?_
      refine m_lld C hM dX9_placeOf_16 5 o (by decide) (show _ < 40 by omega) rfl ?_
      refine v_lc_lt (tgt := 32) C dX9_placeOf_17 dX9_placeOf_18 (by decide) (fun c_17 => ?_) (fun c_17 => absurd hb c_17)
      refine v_lload_n C dX9_placeOf_32 rfl rfl ?_
      refine v_aload_n C dX9_placeOf_33 rfl rfl ?_
      refine v_get C dX9_placeOf_34 7 hM.1 rfl in_X9 (by decide) g_fl_X9_29 (fun _ h9 => h9) rfl ?_
      refine v_iload_n C dX9_placeOf_37 rfl rfl ?_
      refine m_ild C hM dX9_placeOf_38 7 o (by decide) (show _ < 40 by omega) rfl ?_
      refine v_i2l C dX9_placeOf_39 ?_
      refine v_ladd C dX9_placeOf_40 ?_
      refine v_aload_n C dX9_placeOf_41 rfl rfl ?_
      refine v_get C dX9_placeOf_42 5 hM.1 rfl in_X9 (by decide) g_fl_X9_23 (fun _ h9 => h9) rfl ?_
      refine v_iload_n C dX9_placeOf_45 rfl rfl ?_
      refine m_lld C hM dX9_placeOf_46 5 o (by decide) (show _ < 40 by omega) rfl ?_
      refine v_lsub C dX9_placeOf_47 ?_
      exact v_lret C hr hlk dX9_placeOf_48 (Nat.le_refl _) (Nat.le_refl _) ⟨po1 (kd := A 1 o) (sp := A 7 o) (a := L 5 o) (b := L 6 o) hq hk hp hb, rfl⟩
    · refine v_aload_n C dX9_placeOf_0 rfl rfl ?_
      refine v_get C dX9_placeOf_1 1 hM.1 rfl in_X9 (by decide) g_fl_X9_7 (fun _ h9 => h9) rfl ?_
      refine v_iload_n C dX9_placeOf_4 rfl rfl ?_
      refine m_ild C hM dX9_placeOf_5 1 o (by decide) (show _ < 40 by omega) rfl ?_
      refine v_iconst (v := 2) C dX9_placeOf_6 (by decide) ?_
      refine v_icmp_ne (tgt := 49) C dX9_placeOf_7 (by decide) (fun c_7 => absurd hk c_7) (fun c_7 => ?_)
      refine v_lload_n C dX9_placeOf_10 rfl rfl ?_
      refine v_aload_n C dX9_placeOf_11 rfl rfl ?_
      refine v_get C dX9_placeOf_12 5 hM.1 rfl in_X9 (by decide) g_fl_X9_23 (fun _ h9 => h9) rfl ?_
      refine v_iload_n C dX9_placeOf_15 rfl rfl ?_
      refine m_lld C hM dX9_placeOf_16 5 o (by decide) (show _ < 40 by omega) rfl ?_
      refine v_lc_lt (tgt := 32) C dX9_placeOf_17 dX9_placeOf_18 (by decide) (fun c_17 => absurd c_17 hb) (fun c_17 => ?_)
      refine v_lload_n C dX9_placeOf_21 rfl rfl ?_
      refine v_aload_n C dX9_placeOf_22 rfl rfl ?_
      refine v_get C dX9_placeOf_23 5 hM.1 rfl in_X9 (by decide) g_fl_X9_23 (fun _ h9 => h9) rfl ?_
      refine v_iload_n C dX9_placeOf_26 rfl rfl ?_
      refine m_lld C hM dX9_placeOf_27 5 o (by decide) (show _ < 40 by omega) rfl ?_
      refine v_lsub C dX9_placeOf_28 ?_
      refine v_goto (tgt := 48) C dX9_placeOf_29 (by decide) ?_
      exact v_lret C hr hlk dX9_placeOf_48 (Nat.le_refl _) (Nat.le_refl _) ⟨po2 (kd := A 1 o) (sp := A 7 o) (a := L 5 o) (b := L 6 o) hq hk hp hb, rfl⟩
  · by_cases hs : A 7 o ≤ 0
    · have hs2 := up_neg hs
      have hst := st_dn hq hk hs2
      simp only [sgM] at hst
      refine v_aload_n C dX9_placeOf_0 rfl rfl ?_
      refine v_get C dX9_placeOf_1 1 hM.1 rfl in_X9 (by decide) g_fl_X9_7 (fun _ h9 => h9) rfl ?_
      refine v_iload_n C dX9_placeOf_4 rfl rfl ?_
      refine m_ild C hM dX9_placeOf_5 1 o (by decide) (show _ < 40 by omega) rfl ?_
      refine v_iconst (v := 2) C dX9_placeOf_6 (by decide) ?_
      refine v_icmp_ne (tgt := 49) C dX9_placeOf_7 (by decide) (fun c_7 => ?_) (fun c_7 => absurd c_7 hk)
      refine v_aload_n C dX9_placeOf_49 rfl rfl ?_
      refine v_get C dX9_placeOf_50 7 hM.1 rfl in_X9 (by decide) g_fl_X9_29 (fun _ h9 => h9) rfl ?_
      refine v_iload_n C dX9_placeOf_53 rfl rfl ?_
      refine m_ild C hM dX9_placeOf_54 7 o (by decide) (show _ < 40 by omega) rfl ?_
      refine v_if_le (tgt := 62) C dX9_placeOf_55 (by decide) (fun c_55 => ?_) (fun c_55 => absurd hs c_55)
      refine v_iconst (v := 0) C dX9_placeOf_62 (by decide) ?_
      refine v_istore C dX9_placeOf_63 (by decide) rfl ?_
      refine v_iload C dX9_placeOf_65 rfl ?_
      refine v_if_eq (tgt := 90) C dX9_placeOf_67 (by decide) (fun _ => ?_) (fun c_67 => absurd c_67 (by decide))
      refine v_lload_n C dX9_placeOf_90 rfl rfl ?_
      refine v_aload_n C dX9_placeOf_91 rfl rfl ?_
      refine v_get C dX9_placeOf_92 5 hM.1 rfl in_X9 (by decide) g_fl_X9_23 (fun _ h9 => h9) rfl ?_
      refine v_iload_n C dX9_placeOf_95 rfl rfl ?_
      refine m_lld C hM dX9_placeOf_96 5 o (by decide) (show _ < 40 by omega) rfl ?_
      refine v_aload_n C dX9_placeOf_97 rfl rfl ?_
      refine v_get C dX9_placeOf_98 7 hM.1 rfl in_X9 (by decide) g_fl_X9_29 (fun _ h9 => h9) rfl ?_
      refine v_iload_n C dX9_placeOf_101 rfl rfl ?_
      refine m_ild C hM dX9_placeOf_102 7 o (by decide) (show _ < 40 by omega) rfl ?_
      refine v_i2l C dX9_placeOf_103 ?_
      refine v_lneg C dX9_placeOf_104 ?_
      refine v_cl (r_S C (m_stepsUp l D B K _ _ _ _ hst.1 hst.2.1) dX9_placeOf_105 g_ml_X9_72 g_st_yX9_stepsUp g_in_X9 g_cd_yX9_stepsUp (rn_le (by decide)) (by decide) rfl hdn_yX9_stepsUp (Nat.le_of_ble_eq_true rfl) ⟨Nat.le_of_ble_eq_true rfl, Nat.le_of_ble_eq_true rfl⟩) (fun r_105 f_105 hp_105 => ?_)
      obtain ⟨rfl, rfl⟩ := hp_105
      exact v_lret C hr hlk dX9_placeOf_108 (Nat.le_refl _) (Nat.le_refl _) ⟨congrArg sat (po4 (kd := A 1 o) (sp := A 7 o) (a := L 5 o) (b := L 6 o) hq hk hs2 hp), rfl⟩
    · have hs2 := up_pos hs
      have hst := st_up hq hk hs2
      simp only [sgM] at hst
      refine v_aload_n C dX9_placeOf_0 rfl rfl ?_
      refine v_get C dX9_placeOf_1 1 hM.1 rfl in_X9 (by decide) g_fl_X9_7 (fun _ h9 => h9) rfl ?_
      refine v_iload_n C dX9_placeOf_4 rfl rfl ?_
      refine m_ild C hM dX9_placeOf_5 1 o (by decide) (show _ < 40 by omega) rfl ?_
      refine v_iconst (v := 2) C dX9_placeOf_6 (by decide) ?_
      refine v_icmp_ne (tgt := 49) C dX9_placeOf_7 (by decide) (fun c_7 => ?_) (fun c_7 => absurd c_7 hk)
      refine v_aload_n C dX9_placeOf_49 rfl rfl ?_
      refine v_get C dX9_placeOf_50 7 hM.1 rfl in_X9 (by decide) g_fl_X9_29 (fun _ h9 => h9) rfl ?_
      refine v_iload_n C dX9_placeOf_53 rfl rfl ?_
      refine m_ild C hM dX9_placeOf_54 7 o (by decide) (show _ < 40 by omega) rfl ?_
      refine v_if_le (tgt := 62) C dX9_placeOf_55 (by decide) (fun c_55 => absurd c_55 hs) (fun c_55 => ?_)
      refine v_iconst (v := 1) C dX9_placeOf_58 (by decide) ?_
      refine v_goto (tgt := 63) C dX9_placeOf_59 (by decide) ?_
      refine v_istore C dX9_placeOf_63 (by decide) rfl ?_
      refine v_iload C dX9_placeOf_65 rfl ?_
      refine v_if_eq (tgt := 90) C dX9_placeOf_67 (by decide) (fun c_67 => absurd c_67 (by decide)) (fun _ => ?_)
      refine v_aload_n C dX9_placeOf_70 rfl rfl ?_
      refine v_get C dX9_placeOf_71 5 hM.1 rfl in_X9 (by decide) g_fl_X9_23 (fun _ h9 => h9) rfl ?_
      refine v_iload_n C dX9_placeOf_74 rfl rfl ?_
      refine m_lld C hM dX9_placeOf_75 5 o (by decide) (show _ < 40 by omega) rfl ?_
      refine v_lload_n C dX9_placeOf_76 rfl rfl ?_
      refine v_aload_n C dX9_placeOf_77 rfl rfl ?_
      refine v_get C dX9_placeOf_78 7 hM.1 rfl in_X9 (by decide) g_fl_X9_29 (fun _ h9 => h9) rfl ?_
      refine v_iload_n C dX9_placeOf_81 rfl rfl ?_
      refine m_ild C hM dX9_placeOf_82 7 o (by decide) (show _ < 40 by omega) rfl ?_
      refine v_i2l C dX9_placeOf_83 ?_
      refine v_cl (r_S C (m_stepsUp l D B K _ _ _ _ hst.1 hst.2.1) dX9_placeOf_84 g_ml_X9_72 g_st_yX9_stepsUp g_in_X9 g_cd_yX9_stepsUp (rn_le (by decide)) (by decide) rfl hdn_yX9_stepsUp (Nat.le_of_ble_eq_true rfl) ⟨Nat.le_of_ble_eq_true rfl, Nat.le_of_ble_eq_true rfl⟩) (fun r_84 f_84 hp_84 => ?_)
      obtain ⟨rfl, rfl⟩ := hp_84
      refine v_goto (tgt := 108) C dX9_placeOf_87 (by decide) ?_
      exact v_lret C hr hlk dX9_placeOf_108 (Nat.le_refl _) (Nat.le_refl _) ⟨congrArg sat (po3 (kd := A 1 o) (sp := A 7 o) (a := L 5 o) (b := L 6 o) hq hk hs2 hp), rfl⟩

theorem na1 {kd sp : Int32} {a b : Int64} {k : Nat} (hq : okS (kd, a, b, sp)) (h2 : kd = 2) (hk : k < cntS (kd, a, b, sp)) : (a + lN k) - (a + lN k) / sp.toInt64 * sp.toInt64 = valS (kd, a, b, sp) k := by
  obtain ⟨b1, b2, b3, b4, b5, b6⟩ := hq.1 h2
  obtain ⟨n1, n2, n3⟩ := cnt_nm hq h2
  simp only at b1 b2 b3 b4 b5 b6
  have ek : (lN k).toInt = (k : Int) := pk_lT (by omega)
  have e1 : (a + lN k).toInt = a.toInt + k := by rw [l_add_toInt (by omega) (by omega), ek]
  apply Int64.toInt_inj.mp
  rw [lrem_toInt (by rw [i2l_toInt]; omega) (by rw [i2l_toInt]; omega), e1, i2l_toInt]
  unfold valS
  simp only [if_pos h2]
  have hm1 := Int.emod_nonneg (a.toInt + k) (show sp.toInt ≠ 0 by omega)
  have hm2 := Int.emod_lt_of_pos (a.toInt + k) (show 0 < sp.toInt by omega)
  rw [Int64.toInt_ofInt, show Int64.size = 18446744073709551616 from rfl, Int.bmod_eq_of_le (by omega) (by omega)]
  exact Int.tmod_eq_emod_of_nonneg (by omega)
theorem na2 {kd sp : Int32} {a b : Int64} {k : Nat} (h2 : ¬ kd = 2) : a + lN k * sp.toInt64 = valS (kd, a, b, sp) k := by
  unfold valS
  simp only [if_neg h2]
  rw [Int64.ofInt_add, Int64.ofInt_mul, Int64.ofInt_toInt, i2l_ofInt]
  rfl
set_option maxHeartbeats 4000000 in
set_option maxRecDepth 100000 in
theorem m_numberAt (l : Launch) (D : va_G) (B : Nat) (K : Nat → ClassId) (f : St) (r : Nat → Nat) (f0 : St) (A : Nat → Nat → Int32) (L : Nat → Nat → Int64) (I : Nat → Int32) (o k : Nat) (hM : MC K r f0 f A L I) (ho : o < 40) (hq : okS (sgM A L o)) (hk : k < cntS (sgM A L o)) : Kc l D B K yX9_numberAt cX9_numberAt 4 ((some .long)) 1 0 0 [.ref (r 0), .int (nI o), .long (lN k)] f (Ql_ D B (fun x f9 => x = valS (sgM A L o) k ∧ f9 = f)) := by
  refine v_met [(0, .ref (r 0)), (1, .int (nI o)), (2, .long (lN k))] (by decide) (Nat.le_of_ble_eq_true rfl) rfl ?_
  intro p e s m args below meth c C hr hlk hin
  by_cases hk2 : A 1 o = 2
  · have hsp : ¬ (A 7 o).toInt64 = 0 := fun h9 => by
      have h8 := congrArg Int64.toInt h9
      have h7 := hq.1 hk2
      simp only [sgM] at h7
      rw [i2l_toInt] at h8
      have z : (0 : Int64).toInt = 0 := rfl
      omega
    refine v_aload_n C dX9_numberAt_0 rfl rfl ?_
    refine v_get C dX9_numberAt_1 1 hM.1 rfl in_X9 (by decide) g_fl_X9_7 (fun _ h9 => h9) rfl ?_
    refine v_iload_n C dX9_numberAt_4 rfl rfl ?_
    refine m_ild C hM dX9_numberAt_5 1 o (by decide) (show _ < 40 by omega) rfl ?_
    refine v_iconst (v := 2) C dX9_numberAt_6 (by decide) ?_
    refine v_icmp_ne (tgt := 27) C dX9_numberAt_7 (by decide) (fun c_7 => absurd hk2 c_7) (fun c_7 => ?_)
    refine v_aload_n C dX9_numberAt_10 rfl rfl ?_
    refine v_get C dX9_numberAt_11 5 hM.1 rfl in_X9 (by decide) g_fl_X9_23 (fun _ h9 => h9) rfl ?_
    refine v_iload_n C dX9_numberAt_14 rfl rfl ?_
    refine m_lld C hM dX9_numberAt_15 5 o (by decide) (show _ < 40 by omega) rfl ?_
    refine v_lload_n C dX9_numberAt_16 rfl rfl ?_
    refine v_ladd C dX9_numberAt_17 ?_
    refine v_aload_n C dX9_numberAt_18 rfl rfl ?_
    refine v_get C dX9_numberAt_19 7 hM.1 rfl in_X9 (by decide) g_fl_X9_29 (fun _ h9 => h9) rfl ?_
    refine v_iload_n C dX9_numberAt_22 rfl rfl ?_
    refine m_ild C hM dX9_numberAt_23 7 o (by decide) (show _ < 40 by omega) rfl ?_
    refine v_i2l C dX9_numberAt_24 ?_
    refine v_lrem C dX9_numberAt_25 hsp ?_
    exact v_lret C hr hlk dX9_numberAt_26 (Nat.le_refl _) (Nat.le_refl _) ⟨na1 (kd := A 1 o) (sp := A 7 o) (a := L 5 o) (b := L 6 o) hq hk2 hk, rfl⟩
  · refine v_aload_n C dX9_numberAt_0 rfl rfl ?_
    refine v_get C dX9_numberAt_1 1 hM.1 rfl in_X9 (by decide) g_fl_X9_7 (fun _ h9 => h9) rfl ?_
    refine v_iload_n C dX9_numberAt_4 rfl rfl ?_
    refine m_ild C hM dX9_numberAt_5 1 o (by decide) (show _ < 40 by omega) rfl ?_
    refine v_iconst (v := 2) C dX9_numberAt_6 (by decide) ?_
    refine v_icmp_ne (tgt := 27) C dX9_numberAt_7 (by decide) (fun c_7 => ?_) (fun c_7 => absurd c_7 hk2)
    refine v_aload_n C dX9_numberAt_27 rfl rfl ?_
    refine v_get C dX9_numberAt_28 5 hM.1 rfl in_X9 (by decide) g_fl_X9_23 (fun _ h9 => h9) rfl ?_
    refine v_iload_n C dX9_numberAt_31 rfl rfl ?_
    refine m_lld C hM dX9_numberAt_32 5 o (by decide) (show _ < 40 by omega) rfl ?_
    refine v_lload_n C dX9_numberAt_33 rfl rfl ?_
    refine v_aload_n C dX9_numberAt_34 rfl rfl ?_
    refine v_get C dX9_numberAt_35 7 hM.1 rfl in_X9 (by decide) g_fl_X9_29 (fun _ h9 => h9) rfl ?_
    refine v_iload_n C dX9_numberAt_38 rfl rfl ?_
    refine m_ild C hM dX9_numberAt_39 7 o (by decide) (show _ < 40 by omega) rfl ?_
    refine v_i2l C dX9_numberAt_40 ?_
    refine v_lmul C dX9_numberAt_41 ?_
    refine v_ladd C dX9_numberAt_42 ?_
    exact v_lret C hr hlk dX9_numberAt_43 (Nat.le_refl _) (Nat.le_refl _) ⟨na2 (kd := A 1 o) (sp := A 7 o) (a := L 5 o) (b := L 6 o) hk2, rfl⟩

