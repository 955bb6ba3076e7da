/-! what lies in what: rows of singles -/
theorem pmS_n2 (o : Option Nat) : pmS o = -2 ↔ o = none := by
  cases o with
  | none => exact ⟨fun _ => rfl, fun _ => rfl⟩
  | some k => exact ⟨fun h => absurd h (sat_n2 k), fun h => by cases h⟩
theorem sat_1 (n : Nat) : sat n = 1 ↔ n = 1 := by
  constructor
  · intro h
    have h2 := congrArg Int64.toInt h
    rw [sat_toInt] at h2
    have e : (1 : Int64).toInt = 1 := rfl
    by_cases h3 : n < 9223372036854775808
    · rw [if_pos h3] at h2; omega
    · rw [if_neg h3] at h2; omega
  · intro h; subst h; rfl
theorem irem_0 {a b : Int32} (ha1 : -1000000 ≤ a.toInt) (ha2 : a.toInt ≤ 1000000) (hb1 : -1000000 ≤ b.toInt) (hb2 : b.toInt ≤ 1000000) : (a - a / b * b) = 0 ↔ a.toInt % b.toInt = 0 := by
  have e1 : (a / b).toInt = a.toInt.tdiv b.toInt := by
    rw [Int32.toInt_div]
    have h1 : (a.toInt.tdiv b.toInt).natAbs ≤ a.toInt.natAbs := by rw [Int.natAbs_tdiv]; exact Nat.div_le_self _ _
    exact Int.bmod_eq_of_le (by omega) (by omega)
  have e2 : (a / b * b).toInt = a.toInt.tdiv b.toInt * b.toInt := by
    rw [Int32.toInt_mul, e1]
    have h1 : (a.toInt.tdiv b.toInt * b.toInt).natAbs ≤ a.toInt.natAbs := by
      rw [Int.natAbs_mul, Int.natAbs_tdiv]
      exact Nat.div_mul_le_self _ _
    exact Int.bmod_eq_of_le (by omega) (by omega)
  have h3 := Int.tdiv_mul_add_tmod a.toInt b.toInt
  have e3 : (a - a / b * b).toInt = a.toInt.tmod b.toInt := by
    rw [Int32.toInt_sub, e2]
    have h1 : (a.toInt.tmod b.toInt).natAbs ≤ a.toInt.natAbs := by rw [Int.natAbs_tmod]; exact Nat.mod_le _ _
    rw [show a.toInt - a.toInt.tdiv b.toInt * b.toInt = a.toInt.tmod b.toInt by omega]
    exact Int.bmod_eq_of_le (by omega) (by omega)
  constructor
  · intro h
    have h4 := congrArg Int32.toInt h
    rw [e3] at h4
    have e0 : (0 : Int32).toInt = 0 := rfl
    rw [e0] at h4
    exact Int.emod_eq_zero_of_dvd (Int.dvd_of_tmod_eq_zero h4)
  · intro h
    apply Int32.toInt_inj.mp
    rw [e3]
    exact Int.tmod_eq_zero_of_dvd (Int.dvd_of_emod_eq_zero h)
theorem row_ends {q : Sg} {fi la : Int64} {sp : Int32} (h : rowOK q fi la sp) (hc : 0 < cntS q) : valS q 0 = fi ∧ valS q (cntS q - 1) = la := by
  obtain ⟨h2, rfl, rfl, hla⟩ := h
  unfold valS
  rw [if_neg h2, if_neg h2]
  constructor
  · simp
  · rw [show (((cntS q - 1 : Nat) : Int)) = (cntS q : Int) - 1 by omega, ← hla hc, Int64.ofInt_toInt]
theorem lir_eq {q1 q2 : Sg} {fi la : Int64} {sp : Int32} (h1 : okS q1) (h2 : okS q2) (hr : rowOK q1 fi la sp) (hq2 : ¬ q2.1 = 2) (hc : 0 < cntS q1) : lirC (pmS (posS q2 fi)) (pmS (posS q2 la)) (sat (cntS q1)) sp q2.2.2.2 = bI (rrS q1 q2) := by
  obtain ⟨e1, e2⟩ := row_ends hr hc
  obtain ⟨b1, b2, b3⟩ := h1.2 hr.1
  obtain ⟨d1, d2, d3⟩ := h2.2 hq2
  have esp := hr.2.2.1
  unfold lirC rrS
  rw [e1, e2, esp]
  cases hp1 : posS q2 fi with
  | none => rfl
  | some k1 =>
    rw [if_neg (show ¬ pmS (some k1) = -2 from sat_n2 k1)]
    cases hp2 : posS q2 la with
    | none => rfl
    | some k2 =>
      rw [if_neg (show ¬ pmS (some k2) = -2 from sat_n2 k2)]
      by_cases hc1 : cntS q1 = 1
      · rw [if_pos ((sat_1 _).mpr hc1), decide_eq_true hc1]; rfl
      · rw [if_neg (fun h => hc1 ((sat_1 _).mp h)), decide_eq_false hc1]
        rw [if_neg (fun h => by have h9 := congrArg Int32.toInt h; have e0 : (0 : Int32).toInt = 0 := rfl; omega)]
        by_cases hm : q1.2.2.2.toInt % q2.2.2.2.toInt = 0
        · rw [if_pos ((irem_0 b2 b3 d2 d3).mpr hm), decide_eq_true hm]; rfl
        · rw [if_neg (fun h => hm ((irem_0 b2 b3 d2 d3).mp h)), decide_eq_false hm]; rfl
abbrev xR6_each : MethodName := ⟨RX6, "eachLiesIn", "(LIndexRanges$Single;)Z"⟩
abbrev xR4_each : MethodName := ⟨RX4, "eachLiesIn", "(LIndexRanges$Single;)Z"⟩
theorem hdn_xR6_each : RX7 ≠ "java/lang/invoke/MethodHandle" ∧ RX7 ≠ "java/lang/invoke/VarHandle" ∧ (parseMethodDescriptor xR6_each.desc).map (fun d => d.parameters.length) = some 1 := by decide +kernel
theorem hdn_xR4_each : RX7 ≠ "java/lang/invoke/MethodHandle" ∧ RX7 ≠ "java/lang/invoke/VarHandle" ∧ (parseMethodDescriptor xR4_each.desc).map (fun d => d.parameters.length) = some 1 := by decide +kernel
set_option maxHeartbeats 4000000 in
set_option maxRecDepth 100000 in
theorem c_Row_lies_Row (l : Launch) (D : va_G) (B : Nat) (K : Nat → ClassId) (f : St) (sg : Nat → Sg) (ra : Nat → Nat) (kd : Nat → Int32) (fi : St) (o1 o2 : Nat) (hok : ∀ o, okS (sg o)) (hI : Imm fi f) (hc : 0 < cntS (sg o1)) (ufst ulst : Int64) (usp : Int32) (uq : fi (ra o1) = some (.inr (5, [.int (nI o1), .int (kd o1), .int 1, .long (sat (cntS (sg o1))), .long ufst, .long ulst, .int usp]))) (ur : rowOK (sg o1) ufst ulst usp) (vfst vlst : Int64) (vsp : Int32) (vq : fi (ra o2) = some (.inr (5, [.int (nI o2), .int (kd o2), .int 1, .long (sat (cntS (sg o2))), .long vfst, .long vlst, .int vsp]))) (vr : rowOK (sg o2) vfst vlst vsp) : Kc l D B K yX6_liesIn cX6_liesIn 3 ((some .boolean)) 3 0 0 [.ref (ra o1), .ref (ra o2)] f (Qi_ D B (fun r f9 => r = bI (liS (sg o1) (sg o2)) ∧ f9 = f)) := by
  refine v_met [(0, .ref (ra o1)), (1, .ref (ra o2))] (by decide) (Nat.le_of_ble_eq_true rfl) rfl ?_
  intro p e s m args below meth c C hr hlk hin
  refine v_aload_n C dX6_liesIn_0 rfl rfl ?_
  refine v_instY C dX6_liesIn_1 (hI _ _ vq) rfl g_cl_X6_10 (by decide +kernel) ?_
  refine v_if_eq (tgt := 20) C dX6_liesIn_4 (by decide) (fun c_4 => absurd c_4 (by decide)) (fun _ => ?_)
  refine v_aload_n C dX6_liesIn_7 rfl rfl ?_
  refine v_cast C dX6_liesIn_8 (hI _ _ vq) rfl g_cl_X6_10 (by decide +kernel) ?_
  refine v_astore_n C dX6_liesIn_11 rfl (by decide) rfl ?_
  refine v_aload_n C dX6_liesIn_12 rfl rfl ?_
  refine v_aload_n C dX6_liesIn_13 rfl rfl ?_
  refine v_ci (r_V C (c_liesInRow l D B K _ (ra o1) (ra o2) _ _ _ _ _ _ _ _ _ _ _ _ (hI _ _ uq) (hI _ _ vq)) dX6_liesIn_14 (hI _ _ uq) rfl g_ml_X6_33 g_im_yX6_liesInRow g_se_X6_yX6_liesInRow_yX6_liesInRow g_in_X6 g_cd_yX6_liesInRow (rn_le (by decide)) (by decide) rfl rfl hdn_yX6_liesInRow (Nat.le_of_ble_eq_true rfl) ⟨Nat.le_of_ble_eq_true rfl, Nat.le_of_ble_eq_true rfl⟩) (fun r_14 f_14 hp_14 => ?_)
  obtain ⟨rfl, rfl⟩ := hp_14
  rw [rp_eq (hok o2) vr, rp_eq (hok o2) vr, show vsp = (sg o2).2.2.2 from vr.2.2.1, lir_eq (hok o1) (hok o2) ur vr.1 hc]
  refine v_goto (tgt := 25) C dX6_liesIn_17 (by decide) ?_
  exact v_zret C hr hlk dX6_liesIn_25 (bI_n _) (Nat.le_refl _) (Nat.le_refl _) ⟨by unfold liS; rw [if_neg (fun h9 => h9.elim ur.1 vr.1)], rfl⟩

set_option maxHeartbeats 4000000 in
set_option maxRecDepth 100000 in
theorem c_Row_lies_Names (l : Launch) (D : va_G) (B : Nat) (K : Nat → ClassId) (f : St) (sg : Nat → Sg) (ra : Nat → Nat) (kd : Nat → Int32) (fi : St) (o1 o2 : Nat) (hok : ∀ o, okS (sg o)) (hI : Imm fi f) (hc : 0 < cntS (sg o1)) (ufst ulst : Int64) (usp : Int32) (uq : fi (ra o1) = some (.inr (5, [.int (nI o1), .int (kd o1), .int 1, .long (sat (cntS (sg o1))), .long ufst, .long ulst, .int usp]))) (ur : rowOK (sg o1) ufst ulst usp) (var vfs : Int32) (vq : fi (ra o2) = some (.inr (4, [.int (nI o2), .int (kd o2), .int 1, .long (sat (cntS (sg o2))), .int var, .int vfs]))) (vr : namesOK (sg o2) var vfs) : Kc l D B K yX6_liesIn cX6_liesIn 3 ((some .boolean)) 3 0 0 [.ref (ra o1), .ref (ra o2)] f (Qi_ D B (fun r f9 => r = bI (liS (sg o1) (sg o2)) ∧ f9 = f)) := by
  refine v_met [(0, .ref (ra o1)), (1, .ref (ra o2))] (by decide) (Nat.le_of_ble_eq_true rfl) rfl ?_
  intro p e s m args below meth c C hr hlk hin
  refine v_aload_n C dX6_liesIn_0 rfl rfl ?_
  refine v_instN (N9 := 0) (T9 := TX4) C dX6_liesIn_1 (hI _ _ vq) g_cl_X6_10 ?_
  refine v_if_eq (tgt := 20) C dX6_liesIn_4 (by decide) (fun _ => ?_) (fun c_4 => absurd c_4 (by decide))
  refine v_aload_n C dX6_liesIn_20 rfl rfl ?_
  refine v_aload_n C dX6_liesIn_21 rfl rfl ?_
  refine v_ci (r_U (x := xR6_each) (owner := RX7) C (c_each l D B K _ sg ra kd fi o1 o2 hok hI (Or.inl ⟨_, _, _, uq, ur⟩) (Or.inr ⟨_, _, vq, vr⟩)) dX6_liesIn_22 (hI _ _ uq) rfl g_ml_X6_37 g_sm_X6_X7_eachLiesIn g_se_X6_X6_eachLiesIn_7dde_yX7_eachLiesIn g_im_yX7_eachLiesIn g_in_X7 g_cd_yX7_eachLiesIn rfl (rn_le (by decide)) (by decide) rfl hdn_xR6_each (Nat.le_of_ble_eq_true rfl) ⟨Nat.le_of_ble_eq_true rfl, Nat.le_of_ble_eq_true rfl⟩) (fun r_22 f_22 hp_22 => ?_)
  obtain ⟨rfl, rfl⟩ := hp_22
  exact v_zret C hr hlk dX6_liesIn_25 (bI_n _) (Nat.le_refl _) (Nat.le_refl _) ⟨by unfold liS; rw [if_pos (Or.inr vr.1)], rfl⟩

set_option maxHeartbeats 4000000 in
set_option maxRecDepth 100000 in
theorem c_Names_lies (l : Launch) (D : va_G) (B : Nat) (K : Nat → ClassId) (f : St) (sg : Nat → Sg) (ra : Nat → Nat) (kd : Nat → Int32) (fi : St) (o1 o2 : Nat) (hok : ∀ o, okS (sg o)) (hI : Imm fi f) (hc : 0 < cntS (sg o1)) (uar ufs : Int32) (uq : fi (ra o1) = some (.inr (4, [.int (nI o1), .int (kd o1), .int 1, .long (sat (cntS (sg o1))), .int uar, .int ufs]))) (ur : namesOK (sg o1) uar ufs) (hT2 : RS sg ra kd fi o2) : Kc l D B K yX4_liesIn cX4_liesIn 2 ((some .boolean)) 3 0 0 [.ref (ra o1), .ref (ra o2)] f (Qi_ D B (fun r f9 => r = bI (liS (sg o1) (sg o2)) ∧ f9 = f)) := by
  refine v_met [(0, .ref (ra o1)), (1, .ref (ra o2))] (by decide) (Nat.le_of_ble_eq_true rfl) rfl ?_
  intro p e s m args below meth c C hr hlk hin
  refine v_aload_n C dX4_liesIn_0 rfl rfl ?_
  refine v_aload_n C dX4_liesIn_1 rfl rfl ?_
  refine v_ci (r_U (x := xR4_each) (owner := RX7) C (c_each l D B K _ sg ra kd fi o1 o2 hok hI (Or.inr ⟨_, _, uq, ur⟩) hT2) dX4_liesIn_2 (hI _ _ uq) rfl g_ml_X4_24 g_sm_X4_X7_eachLiesIn g_se_X4_X4_eachLiesIn_7dde_yX7_eachLiesIn g_im_yX7_eachLiesIn g_in_X7 g_cd_yX7_eachLiesIn rfl (rn_le (by decide)) (by decide) rfl hdn_xR4_each (Nat.le_of_ble_eq_true rfl) ⟨Nat.le_of_ble_eq_true rfl, Nat.le_of_ble_eq_true rfl⟩) (fun r_2 f_2 hp_2 => ?_)
  obtain ⟨rfl, rfl⟩ := hp_2
  exact v_zret C hr hlk dX4_liesIn_5 (bI_n _) (Nat.le_refl _) (Nat.le_refl _) ⟨by unfold liS; rw [if_pos (Or.inl ur.1)], rfl⟩

theorem v_lies {p : Program} {l : Launch} {e : Env} {R : Room} {s : State} {m : MethodId} {args : Array Value} {below : List Frame} {meth : Method} {c : Code} {D : va_G} {B nL : Nat} {Q : State → Prop} {ce sl : Nat} {f : St} {lv : Lv} {pc : Nat} {st : List Value} {cc : ByteArray} {own : String} {K : Nat → ClassId} (C : Cx p s m args c cc nL own D B K) {sg : Nat → Sg} {ra : Nat → Nat} {kd : Nat → Int32} {fi : St} {o1 o2 index : Nat} {rest : List Value} (hd : decode cc pc = .ok (.invokevirtual index, 3)) (hok : ∀ o, okS (sg o)) (hT1 : RS sg ra kd fi o1) (hT2 : RS sg ra kd fi o2) (hI : Imm fi f) (hc : 0 < cntS (sg o1)) (g1 : Cond.methodLink own index xS_liesIn ∈ GT) (hR : RN R 4) (hst : st = [Value.ref (ra o2), .ref (ra o1)] ++ rest) (hrest : (rest.map fun v => v.category).sum ≤ 8) (hf : ce ≤ R.cells ∧ sl ≤ R.slots)
    (k : V p l e R s m args below meth c D B nL Q ce sl f lv (pc + 3) (.int (bI (liS (sg o1) (sg o2))) :: rest)) : V p l e R s m args below meth c D B nL Q ce sl f lv pc st := by
  have hst2 : st = ([Value.ref (ra o2)] : List Value).reverse ++ .ref (ra o1) :: rest := hst
  rcases hT1 with ⟨fst, lst, sp, q1, q2⟩ | ⟨ar, fs, q1, q2⟩
  · rcases hT2 with ⟨fst2, lst2, sp2, r1, r2⟩ | ⟨ar2, fs2, r1, r2⟩
    · exact v_ci (r_A (x := xS_liesIn) (owner := RX7) C (c_Row_lies_Row l D B K f sg ra kd fi o1 o2 hok hI hc _ _ _ q1 q2 _ _ _ r1 r2) hd (hI _ _ q1) rfl g1 g_sm_X7_X7_liesIn g_se_X6_X7_liesIn_7dde_yX6_liesIn g_im_yX6_liesIn g_in_X6 g_cd_yX6_liesIn (by decide +kernel) hR (by decide) hst2 hdn_xS_liesIn hrest hf) (fun r f9 hp => by obtain ⟨rfl, rfl⟩ := hp; exact k)
    · exact v_ci (r_A (x := xS_liesIn) (owner := RX7) C (c_Row_lies_Names l D B K f sg ra kd fi o1 o2 hok hI hc _ _ _ q1 q2 _ _ r1 r2) hd (hI _ _ q1) rfl g1 g_sm_X7_X7_liesIn g_se_X6_X7_liesIn_7dde_yX6_liesIn g_im_yX6_liesIn g_in_X6 g_cd_yX6_liesIn (by decide +kernel) hR (by decide) hst2 hdn_xS_liesIn hrest hf) (fun r f9 hp => by obtain ⟨rfl, rfl⟩ := hp; exact k)
  · exact v_ci (r_A (x := xS_liesIn) (owner := RX7) C (c_Names_lies l D B K f sg ra kd fi o1 o2 hok hI hc _ _ q1 q2 hT2) hd (hI _ _ q1) rfl g1 g_sm_X7_X7_liesIn g_se_X4_X7_liesIn_7dde_yX4_liesIn g_im_yX4_liesIn g_in_X4 g_cd_yX4_liesIn (by decide +kernel) hR (by decide) hst2 hdn_xS_liesIn hrest hf) (fun r f9 hp => by obtain ⟨rfl, rfl⟩ := hp; exact k)
def liE (sg : Nat → Sg) (l1 l2 : List Ent) (t : Nat) : Bool := match l1[t]?, l2[t]? with
  | some a, some b => liS (sg a.1) (sg b.1)
  | _, _ => false
def wiS (sg : Nat → Sg) (l1 l2 : List Ent) : Bool := decide (l1.length = l2.length) && (decide (prodE sg l1 = 0) || (List.range l1.length).all (liE sg l1 l2))
theorem cnt_pos {sg : Nat → Sg} {l : List Ent} (h : ¬ prodE sg l = 0) {e : Ent} (he : e ∈ l) : 0 < cntS (sg e.1) := by
  induction l with
  | nil => cases he
  | cons a t ih =>
    have h1 : ¬ cntS (sg a.1) * prodE sg t = 0 := h
    rcases List.mem_cons.mp he with q | q
    · subst q
      rcases Nat.eq_zero_or_pos (cntS (sg e.1)) with z | z
      · rw [z, Nat.zero_mul] at h1; exact absurd rfl h1
      · exact z
    · exact ih (fun z => h1 (by rw [z, Nat.mul_zero])) q
set_option maxHeartbeats 4000000 in
set_option maxRecDepth 100000 in
theorem L_within {p : Program} {l : Launch} {e : Env} {s : State} {m : MethodId} {args : Array Value} {below : List Frame} {meth : Method} {c : Code} {D : va_G} {B : Nat} {K : Nat → ClassId} (C : Cx p s m args c cX8_liesWithin 5 yX8_liesWithin.cls D B K) (hr : meth.sig.returnType = (some .boolean)) (hlk : meth.locks = false) (f : St) (sg : Nat → Sg) (E : Nat → List Ent) (ra : Nat → Nat) (kd : Nat → Int32) (fi : St) (N i j : Nat) (hT : RT K sg E ra kd fi N) (hN : N ≤ 40) (hi : i < N) (hj : j < N) (hI : Imm fi f) (hlen : (E i).length = (E j).length) (hz : ¬ prodE sg (E i) = 0) : ∀ (n t : Nat), t ≤ (E i).length → (E i).length + 1 ≤ t + n → (∀ k, k < t → liE sg (E i) (E j) k = true) → V p l e (RM 45 0 0) s m args below meth c D B 5 (MQ below (Qi_ D B (fun r f9 => r = bI (wiS sg (E i) (E j)) ∧ f9 = f)) args s 0 0 (AB B)) 0 0 f (lof [(0, .ref (ra i)), (1, .ref (ra j)), (2, .int (nI t))]) 26 [] := by
  obtain ⟨ci1, fs1, hci1, hcell1, hf01, hf11, hf21, hf31⟩ := RT_hdr (hT.2 i hi).1
  have h81 := (hT.2 i hi).2.1
  intro n
  induction n with
  | zero => intro t h1 h2; omega
  | succ n ih =>
    intro t ht hin hall
    by_cases hlt : t < (E i).length
    · obtain ⟨e1, he1⟩ : ∃ x, (E i)[t]? = some x := ⟨_, List.getElem?_eq_getElem hlt⟩
      obtain ⟨e2, he2⟩ : ∃ x, (E j)[t]? = some x := ⟨_, List.getElem?_eq_getElem (by omega)⟩
      refine v_iload_n C dX8_liesWithin_26 rfl rfl ?_
      refine v_aload_n C dX8_liesWithin_27 rfl rfl ?_
      refine v_getR C dX8_liesWithin_28 2 (by decide) hci1 (hI _ _ hcell1) g_fl_X8_93 hf21 ?_
      refine v_icmp_ge (tgt := 73) C dX8_liesWithin_31 (by decide) (fun c_31 => absurd c_31 (nI_ge hlt (by omega))) (fun c_31 => ?_)
      refine v_aload_n C dX8_liesWithin_34 rfl rfl ?_
      refine v_iload_n C dX8_liesWithin_35 rfl rfl ?_
      refine v_single (i := i) (t := t) (e9 := e1) C dX8_liesWithin_36 (hT.2 i hi).1 (single_all l D B K hT i hi) hI he1 (by omega) g_ml_X8_218 (rn_le (by omega)) rfl (Nat.le_of_ble_eq_true rfl) ⟨Nat.le_refl _, Nat.le_refl _⟩ ?_
      refine v_astore_n C dX8_liesWithin_39 rfl (by decide) rfl ?_
      refine v_aload_n C dX8_liesWithin_40 rfl rfl ?_
      refine v_iload_n C dX8_liesWithin_41 rfl rfl ?_
      refine v_single (i := j) (t := t) (e9 := e2) C dX8_liesWithin_42 (hT.2 j hj).1 (single_all l D B K hT j hj) hI he2 (by omega) g_ml_X8_218 (rn_le (by omega)) rfl (Nat.le_of_ble_eq_true rfl) ⟨Nat.le_refl _, Nat.le_refl _⟩ ?_
      refine v_astore C dX8_liesWithin_45 (by decide) rfl ?_
      refine v_aload_n C dX8_liesWithin_47 rfl rfl ?_
      refine v_ifnull C dX8_liesWithin_48 ?_
      refine v_aload C dX8_liesWithin_51 rfl ?_
      refine v_ifnull C dX8_liesWithin_53 ?_
      refine v_aload_n C dX8_liesWithin_56 rfl rfl ?_
      refine v_aload C dX8_liesWithin_57 rfl ?_
      refine v_lies (o1 := e1.1) (o2 := e2.1) C dX8_liesWithin_59 hT.1 ((hT.2 i hi).2.2.2 e1 (List.mem_of_getElem? he1)).2 ((hT.2 j hj).2.2.2 e2 (List.mem_of_getElem? he2)).2 hI (cnt_pos hz (List.mem_of_getElem? he1)) g_ml_X8_222 (rn_le (by decide)) rfl (Nat.le_of_ble_eq_true rfl) ⟨Nat.le_refl _, Nat.le_refl _⟩ ?_
      cases hli : liS (sg e1.1) (sg e2.1) with
      | true =>
        refine v_if_ne (tgt := 67) C dX8_liesWithin_62 (by decide) (fun c_62 => ?_) (fun c_62 => absurd c_62 (by decide))
        refine v_iinc (y := 1) C dX8_liesWithin_67 rfl (by decide) (by decide) rfl ?_
        refine v_goto (tgt := 26) C dX8_liesWithin_70 (by decide) ?_
        refine v_loc [(0, .ref (ra i)), (1, .ref (ra j)), (2, .int (nI (t + 1)))] (lsub_c rfl (lsub_c rfl (lsub_c (by rw [nI_succ]; rfl) lsub_n))) ?_
        exact ih (t + 1) hlt (by omega) (fun k hk => by
          by_cases e9 : k = t
          · subst e9; unfold liE; rw [he1, he2]; exact hli
          · exact hall k (by omega))
      | false =>
        refine v_if_ne (tgt := 67) C dX8_liesWithin_62 (by decide) (fun c_62 => absurd rfl c_62) (fun c_62 => ?_)
        refine v_iconst (v := 0) C dX8_liesWithin_65 (by decide) ?_
        exact v_zret C hr hlk dX8_liesWithin_66 rfl (Nat.le_refl _) (Nat.le_refl _) ⟨by unfold wiS; rw [range_all_false hlt (by unfold liE; rw [he1, he2]; exact hli), decide_eq_false hz, Bool.or_false, Bool.and_false]; rfl, rfl⟩
    · refine v_iload_n C dX8_liesWithin_26 rfl rfl ?_
      refine v_aload_n C dX8_liesWithin_27 rfl rfl ?_
      refine v_getR C dX8_liesWithin_28 2 (by decide) hci1 (hI _ _ hcell1) g_fl_X8_93 hf21 ?_
      refine v_icmp_ge (tgt := 73) C dX8_liesWithin_31 (by decide) (fun c_31 => ?_) (fun c_31 => absurd (nI_le (by omega) (by omega)) c_31)
      refine v_iconst (v := 1) C dX8_liesWithin_73 (by decide) ?_
      exact v_zret C hr hlk dX8_liesWithin_74 rfl (Nat.le_refl _) (Nat.le_refl _) ⟨by unfold wiS; rw [range_all_true (fun k hk => hall k (by omega)), Bool.or_true, Bool.and_true, decide_eq_true hlen]; rfl, rfl⟩

set_option maxHeartbeats 4000000 in
set_option maxRecDepth 100000 in
theorem c_liesWithin (l : Launch) (D : va_G) (B : Nat) (K : Nat → ClassId) (f : St) (sg : Nat → Sg) (E : Nat → List Ent) (ra : Nat → Nat) (kd : Nat → Int32) (fi : St) (N i j : Nat) (hT : RT K sg E ra kd fi N) (hN : N ≤ 40) (hi : i < N) (hj : j < N) (hI : Imm fi f) : Kc l D B K yX8_liesWithin cX8_liesWithin 5 ((some .boolean)) 45 0 0 [.ref (ra i), .ref (ra j)] f (Qi_ D B (fun r f9 => r = bI (wiS sg (E i) (E j)) ∧ f9 = f)) := by
  refine v_met [(0, .ref (ra i)), (1, .ref (ra j))] (by decide) (Nat.le_of_ble_eq_true rfl) rfl ?_
  intro p e s m args below meth c C hr hlk hin
  obtain ⟨ci1, fs1, hci1, hcell1, hf01, hf11, hf21, hf31⟩ := RT_hdr (hT.2 i hi).1
  obtain ⟨ci2, fs2, hci2, hcell2, hf02, hf12, hf22, hf32⟩ := RT_hdr (hT.2 j hj).1
  have h81 := (hT.2 i hi).2.1
  have h82 := (hT.2 j hj).2.1
  refine v_aload_n C dX8_liesWithin_0 rfl rfl ?_
  refine v_getR C dX8_liesWithin_1 2 (by decide) hci1 (hI _ _ hcell1) g_fl_X8_93 hf21 ?_
  refine v_aload_n C dX8_liesWithin_4 rfl rfl ?_
  refine v_getR C dX8_liesWithin_5 2 (by decide) hci2 (hI _ _ hcell2) g_fl_X8_93 hf22 ?_
  refine v_icmp_eq (tgt := 13) C dX8_liesWithin_8 (by decide) (fun c_8 => ?_) (fun c_8 => ?_)
  · refine v_aload_n C dX8_liesWithin_13 rfl rfl ?_
    refine v_getR C dX8_liesWithin_14 3 (by decide) hci1 (hI _ _ hcell1) g_fl_X8_75 hf31 ?_
    refine v_lconst (v := 0) C dX8_liesWithin_17 (by decide) ?_
    refine v_lc_ne (tgt := 24) C dX8_liesWithin_18 dX8_liesWithin_19 (by decide) (fun c_18 => ?_) (fun c_18 => ?_)
    · refine v_iconst (v := 0) C dX8_liesWithin_24 (by decide) ?_
      refine v_istore_n C dX8_liesWithin_25 rfl (by decide) rfl ?_
      refine v_loc [(0, .ref (ra i)), (1, .ref (ra j)), (2, .int (nI 0))] (lsub_c rfl (lsub_c rfl (lsub_c rfl lsub_n))) ?_
      exact L_within C hr hlk f sg E ra kd fi N i j hT hN hi hj hI ((nI_eq (by omega) (by omega)).mp c_8) (fun h9 => c_18 ((sat_0 _).mpr h9)) ((E i).length + 1) 0 (Nat.zero_le _) (by omega) (fun k hk => absurd hk (Nat.not_lt_zero _))
    · refine v_iconst (v := 1) C dX8_liesWithin_22 (by decide) ?_
      exact v_zret C hr hlk dX8_liesWithin_23 rfl (Nat.le_refl _) (Nat.le_refl _) ⟨by unfold wiS; rw [decide_eq_true ((nI_eq (by omega) (by omega)).mp c_8), decide_eq_true ((sat_0 _).mp c_18), Bool.true_or, Bool.and_true]; rfl, rfl⟩
  · refine v_iconst (v := 0) C dX8_liesWithin_11 (by decide) ?_
    exact v_zret C hr hlk dX8_liesWithin_12 rfl (Nat.le_refl _) (Nat.le_refl _) ⟨by unfold wiS; rw [decide_eq_false (fun h9 => c_8 (congrArg nI h9)), Bool.false_and]; rfl, rfl⟩

