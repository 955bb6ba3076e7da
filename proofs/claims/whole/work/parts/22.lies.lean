/-! what lies in what: singles -/
section VI
variable {p : Program} {l : Launch} {e : Env} {R : Room} {s : State} {m : MethodId} {args : Array Value} {below : List Frame} {meth : Method} {c : Code} {D : va_G} {B nL : Nat} {Q : State → Prop} {ce sl : Nat} {f : St} {lv : Lv} {pc : Nat} {st : List Value} {cc : ByteArray} {own : String} {K : Nat → ClassId}
theorem v_instY (C : Cx p s m args c cc nL own D B K) {index a ci N9 : Nat} {fs : List Value} {C9 nm : String} {T9 : u_T} (hd : decode cc pc = .ok (.instanceof index, 3)) (he : f a = some (.inr (ci, fs))) (hc : classes[ci]? = some (C9, T9, N9)) (g1 : Cond.classLink own index nm ∈ GT) (gc : Cond.castable C9 nm ∈ nbL) (k : V p l e R s m args below meth c D B nL Q ce sl f lv (pc + 3) (.int 1 :: st)) : V p l e R s m args below meth c D B nL Q ce sl f lv pc (.ref a :: st) := fun H locs ls h hS hl => va_instY C.1 C.2.1 C.2.2.2.1 (C.2.2.2.2.1 _ g1) (C.2.2.2.2.2.2.2.1 _ gc) (recv_at C h he hc) hd (k H locs ls h hS hl)
theorem v_instN (C : Cx p s m args c cc nL own D B K) {index a N9 : Nat} {fs : List Value} {T9 : u_T} (hd : decode cc pc = .ok (.instanceof index, 3)) (he : f a = some (.inr (4, fs))) (g1 : Cond.classLink own index RX6 ∈ GT) (k : V p l e R s m args below meth c D B nL Q ce sl f lv (pc + 3) (.int 0 :: st)) : V p l e R s m args below meth c D B nL Q ce sl f lv pc (.ref a :: st) := fun H locs ls h hS hl => va_instNo (C := RX4) C.1 C.2.1 C.2.2.2.1 (C.2.2.2.2.1 _ g1) C.2.2.2.2.2.2.2.2.1 (recv_at C h he rfl) hd (k H locs ls h hS hl)
theorem v_cast (C : Cx p s m args c cc nL own D B K) {index a ci N9 : Nat} {fs : List Value} {C9 nm : String} {T9 : u_T} (hd : decode cc pc = .ok (.checkcast index, 3)) (he : f a = some (.inr (ci, fs))) (hc : classes[ci]? = some (C9, T9, N9)) (g1 : Cond.classLink own index nm ∈ GT) (gc : Cond.castable C9 nm ∈ nbL) (k : V p l e R s m args below meth c D B nL Q ce sl f lv (pc + 3) (.ref a :: st)) : V p l e R s m args below meth c D B nL Q ce sl f lv pc (.ref a :: st) := fun H locs ls h hS hl => va_castY C.1 C.2.1 C.2.2.2.1 (C.2.2.2.2.1 _ g1) (C.2.2.2.2.2.2.2.1 _ gc) (recv_at C h he hc) hd (k H locs ls h hS hl)
theorem v_plOf (C : Cx p s m args c cc nL own D B K) {sg : Nat → Sg} {ra : Nat → Nat} {kd : Nat → Int32} {fi : St} {o index : Nat} {v : Int64} {rest : List Value} (hd : decode cc pc = .ok (.invokevirtual index, 3)) (hok : okS (sg o)) (hT : RS sg ra kd fi o) (hI : Imm fi f) (g1 : Cond.methodLink own index xS_placeOf ∈ GT) (hR : RN R 2) (hst : st = [Value.long v, .ref (ra o)] ++ rest) (hrest : (rest.map fun v => v.category).sum ≤ 8) (hf : ce ≤ R.cells ∧ sl ≤ R.slots)
    (k : V p l e R s m args below meth c D B nL Q ce sl f lv (pc + 3) (.long (pmS (posS (sg o) v)) :: rest)) : V p l e R s m args below meth c D B nL Q ce sl f lv pc st := by
  have hst2 : st = ([Value.long v] : List Value).reverse ++ .ref (ra o) :: rest := hst
  rcases hT with ⟨fst, lst, sp, q1, q2⟩ | ⟨ar, fs, q1, q2⟩
  · exact v_cl (r_A (x := xS_placeOf) (owner := RX7) C (c_Row_placeOf l D B K f (ra o) _ _ _ _ _ _ _ (hI _ _ q1)) hd (hI _ _ q1) rfl g1 g_sm_X7_X7_placeOf g_se_X6_X7_placeOf_467d_yX6_placeOf g_im_yX6_placeOf g_in_X6 g_cd_yX6_placeOf (by decide +kernel) hR (by decide) hst2 hdn_xS_placeOf hrest hf) (fun r f9 hp => by obtain ⟨rfl, rfl⟩ := hp; rw [rp_eq hok q2]; exact k)
  · exact v_cl (r_A (x := xS_placeOf) (owner := RX7) C (c_Names_placeOf l D B K f (ra o) _ _ _ _ _ _ (hI _ _ q1)) hd (hI _ _ q1) rfl g1 g_sm_X7_X7_placeOf g_se_X4_X7_placeOf_467d_yX4_placeOf g_im_yX4_placeOf g_in_X4 g_cd_yX4_placeOf (by decide +kernel) ⟨Nat.le_trans (by decide) hR.1, Nat.le_trans (by decide) hR.2⟩ (by decide) hst2 hdn_xS_placeOf hrest hf) (fun r f9 hp => by obtain ⟨rfl, rfl⟩ := hp; rw [np_eq hok q2]; exact k)
theorem v_vaAt (C : Cx p s m args c cc nL own D B K) {sg : Nat → Sg} {ra : Nat → Nat} {kd : Nat → Int32} {fi : St} {o index k9 : Nat} {rest : List Value} (hd : decode cc pc = .ok (.invokevirtual index, 3)) (hok : okS (sg o)) (hT : RS sg ra kd fi o) (hI : Imm fi f) (hk : k9 < cntS (sg o)) (g1 : Cond.methodLink own index xS_valueAt ∈ GT) (hR : RN R 1) (hst : st = [Value.long (lN k9), .ref (ra o)] ++ rest) (hrest : (rest.map fun v => v.category).sum ≤ 8) (hf : ce ≤ R.cells ∧ sl ≤ R.slots)
    (k : V p l e R s m args below meth c D B nL Q ce sl f lv (pc + 3) (.long (valS (sg o) k9) :: rest)) : V p l e R s m args below meth c D B nL Q ce sl f lv pc st := by
  have hst2 : st = ([Value.long (lN k9)] : List Value).reverse ++ .ref (ra o) :: rest := hst
  rcases hT with ⟨fst, lst, sp, q1, q2⟩ | ⟨ar, fs, q1, q2⟩
  · exact v_cl (r_A (x := xS_valueAt) (owner := RX7) C (c_Row_valueAt l D B K f (ra o) _ _ _ _ _ _ _ (hI _ _ q1)) hd (hI _ _ q1) rfl g1 g_sm_X7_X7_valueAt g_se_X6_X7_valueAt_467d_yX6_valueAt g_im_yX6_valueAt g_in_X6 g_cd_yX6_valueAt (by decide +kernel) hR (by decide) hst2 hdn_xS_valueAt hrest hf) (fun r f9 hp => by obtain ⟨rfl, rfl⟩ := hp; rw [rv_eq q2]; exact k)
  · exact v_cl (r_A (x := xS_valueAt) (owner := RX7) C (c_Names_valueAt l D B K f (ra o) _ _ _ _ _ _ (hI _ _ q1)) hd (hI _ _ q1) rfl g1 g_sm_X7_X7_valueAt g_se_X4_X7_valueAt_467d_yX4_valueAt g_im_yX4_valueAt g_in_X4 g_cd_yX4_valueAt (by decide +kernel) hR (by decide) hst2 hdn_xS_valueAt hrest hf) (fun r f9 hp => by obtain ⟨rfl, rfl⟩ := hp; rw [nv_eq hok q2 _ hk]; exact k)
theorem v_szS (C : Cx p s m args c cc nL RX7 D B K) {sg : Nat → Sg} {ra : Nat → Nat} {kd : Nat → Int32} {fi : St} {o : Nat} (hd : decode cc pc = .ok (.getfield 40, 3)) (hT : RS sg ra kd fi o) (hI : Imm fi f) (k : V p l e R s m args below meth c D B nL Q ce sl f lv (pc + 3) (.long (sat (cntS (sg o))) :: st)) : V p l e R s m args below meth c D B nL Q ce sl f lv pc (.ref (ra o) :: st) := by
  rcases hT with ⟨fst, lst, sp, q1, q2⟩ | ⟨ar, fs, q1, q2⟩
  · exact v_get C hd 3 (hI _ _ q1) rfl in_X6 (by decide) g_fl_X7_40 (fun x9 h9 => u_same (C.2.2.2.2.1 _ g_sf_X7_size) x9 h9) rfl k
  · exact v_get C hd 3 (hI _ _ q1) rfl in_X4 (by decide) g_fl_X7_40 (fun x9 h9 => u_same (C.2.2.2.2.1 _ g_sf_X7_size) x9 h9) rfl k
end VI
def eaS (q1 q2 : Sg) : Bool := decide (cntS q1 ≤ 20) && (List.range (cntS q1)).all (fun k => (posS q2 (valS q1 k)).isSome)
def rrS (q1 q2 : Sg) : Bool := (posS q2 (valS q1 0)).isSome && ((posS q2 (valS q1 (cntS q1 - 1))).isSome && (decide (cntS q1 = 1) || decide (q1.2.2.2.toInt % q2.2.2.2.toInt = 0)))
def liS (q1 q2 : Sg) : Bool := if q1.1 = 2 ∨ q2.1 = 2 then eaS q1 q2 else rrS q1 q2
def bI (b : Bool) : Int32 := if b then 1 else 0
theorem bI_n (b : Bool) : narrow .boolean (.int (bI b)) = .int (bI b) := by cases b <;> rfl
theorem range_all_false {n k : Nat} {p : Nat → Bool} (hk : k < n) (h : p k = false) : (List.range n).all p = false := by
  rw [List.all_eq_false]
  exact ⟨k, List.mem_range.mpr hk, by rw [h]; decide⟩
theorem range_all_true {n : Nat} {p : Nat → Bool} (h : ∀ k, k < n → p k = true) : (List.range n).all p = true := by
  rw [List.all_eq_true]
  exact fun k hk => h k (List.mem_range.mp hk)
set_option maxHeartbeats 4000000 in
set_option maxRecDepth 100000 in
theorem L_each {p : Program} {l : Launch} {e : Env} {s : State} {m : MethodId} {args : Array Value} {below : List Frame} {meth : Method} {c : Code} {D : va_G} {B : Nat} {K : Nat → ClassId} (C : Cx p s m args c cX7_eachLiesIn 3 yX7_eachLiesIn.cls D B K) (hr : meth.sig.returnType = (some .boolean)) (hlk : meth.locks = false) (f : St) (sg : Nat → Sg) (ra : Nat → Nat) (kd : Nat → Int32) (fi : St) (o1 o2 : Nat) (hok : ∀ o, okS (sg o)) (hI : Imm fi f) (hT1 : RS sg ra kd fi o1) (hT2 : RS sg ra kd fi o2) (h20 : cntS (sg o1) ≤ 20) : ∀ (n kk : Nat), kk ≤ cntS (sg o1) → cntS (sg o1) + 1 ≤ kk + n → (∀ j, j < kk → (posS (sg o2) (valS (sg o1) j)).isSome = true) → V p l e (RM 2 0 0) s m args below meth c D B 3 (MQ below (Qi_ D B (fun r f9 => r = bI (eaS (sg o1) (sg o2)) ∧ f9 = f)) args s 0 0 (AB B)) 0 0 f (lof [(0, .ref (ra o1)), (1, .ref (ra o2)), (2, .int (nI kk))]) 26 [] := by
  intro n
  induction n with
  | zero => intro kk h1 h2; omega
  | succ n ih =>
    intro kk hkk hin hall
    by_cases hlt : kk < cntS (sg o1)
    · refine v_iload_n C dX7_eachLiesIn_26 rfl rfl ?_
      refine v_i2l C dX7_eachLiesIn_27 ?_
      refine v_aload_n C dX7_eachLiesIn_28 rfl rfl ?_
      refine v_szS C dX7_eachLiesIn_29 hT1 hI ?_
      rw [nI_l (show kk < 2 ^ 31 by omega), sat_lt (show cntS (sg o1) < 9223372036854775808 by omega)]
      refine v_lc_ge (tgt := 61) C dX7_eachLiesIn_32 dX7_eachLiesIn_33 (by decide) (fun c_32 => absurd c_32 (fun h9 => by have h8 := (pk_lLE (by omega) (by omega)).mp h9; omega)) (fun c_32 => ?_)
      refine v_aload_n C dX7_eachLiesIn_36 rfl rfl ?_
      refine v_aload_n C dX7_eachLiesIn_37 rfl rfl ?_
      refine v_iload_n C dX7_eachLiesIn_38 rfl rfl ?_
      refine v_i2l C dX7_eachLiesIn_39 ?_
      rw [nI_l (show kk < 2 ^ 31 by omega)]
      refine v_vaAt (o := o1) (k9 := kk) C dX7_eachLiesIn_40 (hok o1) hT1 hI hlt g_ml_X7_33 (rn_le (by decide)) rfl (Nat.le_of_ble_eq_true rfl) ⟨Nat.le_refl _, Nat.le_refl _⟩ ?_
      refine v_plOf (o := o2) C dX7_eachLiesIn_43 (hok o2) hT2 hI g_ml_X7_15 (rn_le (by decide)) rfl (Nat.le_of_ble_eq_true rfl) ⟨Nat.le_refl _, Nat.le_refl _⟩ ?_
      cases hp : posS (sg o2) (valS (sg o1) kk) with
      | some k9 =>
        refine v_ldc2 C dX7_eachLiesIn_46 g_kl_X7_21 ?_
        refine v_lc_ne (tgt := 55) C dX7_eachLiesIn_49 dX7_eachLiesIn_50 (by decide) (fun c_49 => ?_) (fun c_49 => absurd c_49 (sat_n2 _))
        refine v_iinc (y := 1) C dX7_eachLiesIn_55 rfl (by decide) (by decide) rfl ?_
        refine v_goto (tgt := 26) C dX7_eachLiesIn_58 (by decide) ?_
        refine v_loc [(0, .ref (ra o1)), (1, .ref (ra o2)), (2, .int (nI (kk + 1)))] (lsub_c rfl (lsub_c rfl (lsub_c (by rw [nI_succ]; rfl) lsub_n))) ?_
        exact ih (kk + 1) hlt (by omega) (fun j hj => by
          by_cases e9 : j = kk
          · subst e9; rw [hp]; rfl
          · exact hall j (by omega))
      | none =>
        refine v_ldc2 C dX7_eachLiesIn_46 g_kl_X7_21 ?_
        refine v_lc_ne (tgt := 55) C dX7_eachLiesIn_49 dX7_eachLiesIn_50 (by decide) (fun c_49 => absurd rfl c_49) (fun c_49 => ?_)
        refine v_iconst (v := 0) C dX7_eachLiesIn_53 (by decide) ?_
        exact v_zret C hr hlk dX7_eachLiesIn_54 rfl (Nat.le_refl _) (Nat.le_refl _) ⟨by unfold eaS; rw [range_all_false hlt (by rw [hp]; rfl), Bool.and_false]; rfl, rfl⟩
    · refine v_iload_n C dX7_eachLiesIn_26 rfl rfl ?_
      refine v_i2l C dX7_eachLiesIn_27 ?_
      refine v_aload_n C dX7_eachLiesIn_28 rfl rfl ?_
      refine v_szS C dX7_eachLiesIn_29 hT1 hI ?_
      rw [nI_l (show kk < 2 ^ 31 by omega), sat_lt (show cntS (sg o1) < 9223372036854775808 by omega)]
      refine v_lc_ge (tgt := 61) C dX7_eachLiesIn_32 dX7_eachLiesIn_33 (by decide) (fun c_32 => ?_) (fun c_32 => absurd ((pk_lLE (by omega) (by omega)).mpr (by omega)) c_32)
      refine v_iconst (v := 1) C dX7_eachLiesIn_61 (by decide) ?_
      exact v_zret C hr hlk dX7_eachLiesIn_62 rfl (Nat.le_refl _) (Nat.le_refl _) ⟨by unfold eaS; rw [range_all_true (fun k hk => hall k (by omega)), decide_eq_true h20]; rfl, rfl⟩

theorem ea20 {n : Nat} (h1 : ¬ sat n = -1) (h2 : sat n ≤ 20) : n ≤ 20 := by
  have h3 : n < 9223372036854775808 := by
    rcases Nat.lt_or_ge n 9223372036854775808 with q | q
    · exact q
    · exact absurd (sat_ge q) h1
  rw [sat_lt h3] at h2
  exact (pk_lLE (b := 20) h3 (by omega)).mp h2
theorem ea21 {n : Nat} {p : Bool} (h : sat n = -1 ∨ ¬ sat n ≤ 20) : (0 : Int32) = bI (decide (n ≤ 20) && p) := by
  have h3 : ¬ n ≤ 20 := by
    intro h4
    have h5 : sat n = lN n := sat_lt (by omega)
    rcases h with h | h
    · have := (sat_m1 n).mp h; omega
    · rw [h5] at h
      exact h ((pk_lLE (b := 20) (by omega) (by omega)).mpr h4)
  rw [decide_eq_false h3]
  rfl
set_option maxHeartbeats 4000000 in
set_option maxRecDepth 100000 in
theorem c_each (l : Launch) (D : va_G) (B : Nat) (K : Nat → ClassId) (f : St) (sg : Nat → Sg) (ra : Nat → Nat) (kd : Nat → Int32) (fi : St) (o1 o2 : Nat) (hok : ∀ o, okS (sg o)) (hI : Imm fi f) (hT1 : RS sg ra kd fi o1) (hT2 : RS sg ra kd fi o2) : Kc l D B K yX7_eachLiesIn cX7_eachLiesIn 3 ((some .boolean)) 2 0 0 [.ref (ra o1), .ref (ra o2)] f (Qi_ D B (fun r f9 => r = bI (eaS (sg o1) (sg o2)) ∧ f9 = f)) := by
  refine v_met [(0, .ref (ra o1)), (1, .ref (ra o2))] (by decide) (Nat.le_of_ble_eq_true rfl) rfl ?_
  intro p e s m args below meth c C hr hlk hin
  refine v_aload_n C dX7_eachLiesIn_0 rfl rfl ?_
  refine v_szS C dX7_eachLiesIn_1 hT1 hI ?_
  refine v_ldc2 C dX7_eachLiesIn_4 g_kl_X7_44 ?_
  refine v_lc_eq (tgt := 22) C dX7_eachLiesIn_7 dX7_eachLiesIn_8 (by decide) (fun c_7 => ?_) (fun c_7 => ?_)
  · refine v_iconst (v := 0) C dX7_eachLiesIn_22 (by decide) ?_
    exact v_zret C hr hlk dX7_eachLiesIn_23 rfl (Nat.le_refl _) (Nat.le_refl _) ⟨ea21 (Or.inl c_7), rfl⟩
  · refine v_aload_n C dX7_eachLiesIn_11 rfl rfl ?_
    refine v_szS C dX7_eachLiesIn_12 hT1 hI ?_
    refine v_ldc2 C dX7_eachLiesIn_15 g_kl_X7_46 ?_
    refine v_lc_le (tgt := 24) C dX7_eachLiesIn_18 dX7_eachLiesIn_19 (by decide) (fun c_18 => ?_) (fun c_18 => ?_)
    · refine v_iconst (v := 0) C dX7_eachLiesIn_24 (by decide) ?_
      refine v_istore_n C dX7_eachLiesIn_25 rfl (by decide) rfl ?_
      refine v_loc [(0, .ref (ra o1)), (1, .ref (ra o2)), (2, .int (nI 0))] (lsub_c rfl (lsub_c rfl (lsub_c rfl lsub_n))) ?_
      exact L_each C hr hlk f sg ra kd fi o1 o2 hok hI hT1 hT2 (ea20 c_7 c_18) (cntS (sg o1) + 1) 0 (Nat.zero_le _) (by omega) (fun j hj => absurd hj (Nat.not_lt_zero _))
    · refine v_iconst (v := 0) C dX7_eachLiesIn_22 (by decide) ?_
      exact v_zret C hr hlk dX7_eachLiesIn_23 rfl (Nat.le_refl _) (Nat.le_refl _) ⟨ea21 (Or.inr c_18), rfl⟩

def lirC (p1 p2 sz : Int64) (s1 s2 : Int32) : Int32 := if p1 = (-2 : Int64) then ((0 : Int32)) else if p2 = (-2 : Int64) then ((0 : Int32)) else if sz = (1 : Int64) then ((1 : Int32)) else if s2 = (0 : Int32) then ((0 : Int32)) else if (s1 - s1 / s2 * s2) = (0 : Int32) then ((1 : Int32)) else ((0 : Int32))
set_option maxHeartbeats 4000000 in
set_option maxRecDepth 100000 in
theorem c_liesInRow (l : Launch) (D : va_G) (B : Nat) (K : Nat → ClassId) (f : St) (a0 b0 : Nat) (num kd num2 kd2 sp sp2 : Int32) (sz fi la sz2 fi2 la2 : Int64) (h0 : f a0 = some (.inr (5, [.int num, .int kd, .int 1, .long sz, .long fi, .long la, .int sp]))) (h2 : f b0 = some (.inr (5, [.int num2, .int kd2, .int 1, .long sz2, .long fi2, .long la2, .int sp2]))) : Kc l D B K yX6_liesInRow cX6_liesInRow 2 (some .boolean) 2 0 0 [.ref a0, .ref b0] f (Qi_ D B (fun r f9 => r = lirC (rpC sz2 fi2 la2 sp2 fi) (rpC sz2 fi2 la2 sp2 la) sz sp sp2 ∧ f9 = f)) := by
  refine v_met [(0, .ref a0), (1, .ref b0)] (by decide) (Nat.le_of_ble_eq_true rfl) rfl ?_
  intro p e s m args below meth c C hr hlk hin
  refine v_aload_n C dX6_liesInRow_0 rfl rfl ?_
  refine v_aload_n C dX6_liesInRow_1 rfl rfl ?_
  refine v_get C dX6_liesInRow_2 4 h0 rfl in_X6 (by decide) g_fl_X6_9 (fun _ h9 => h9) rfl ?_
  refine v_cl (r_V C (c_Row_placeOf l D B K _ b0 _ _ _ _ _ _ _ h2) dX6_liesInRow_5 h2 rfl g_ml_X6_41 g_im_yX6_placeOf g_se_X6_yX6_placeOf_yX6_placeOf g_in_X6 g_cd_yX6_placeOf (rn_le (by decide)) (by decide) rfl rfl hdn_yX6_placeOf (Nat.le_of_ble_eq_true rfl) ⟨Nat.le_of_ble_eq_true rfl, Nat.le_of_ble_eq_true rfl⟩) (fun r_5 f_5 hp_5 => ?_)
  obtain ⟨rfl, rfl⟩ := hp_5
  refine v_ldc2 C dX6_liesInRow_8 g_kl_X6_25 ?_
  refine v_lc_eq (tgt := 30) C dX6_liesInRow_11 dX6_liesInRow_12 (by decide) (fun c_11 => ?_) (fun c_11 => ?_)
  · refine v_iconst (v := 0) C dX6_liesInRow_30 (by decide) ?_
    exact v_zret C hr hlk dX6_liesInRow_31 rfl (Nat.le_refl _) (Nat.le_refl _) ⟨by unfold lirC; rw [if_pos c_11], rfl⟩
  · refine v_aload_n C dX6_liesInRow_15 rfl rfl ?_
    refine v_aload_n C dX6_liesInRow_16 rfl rfl ?_
    refine v_get C dX6_liesInRow_17 5 h0 rfl in_X6 (by decide) g_fl_X6_15 (fun _ h9 => h9) rfl ?_
    refine v_cl (r_V C (c_Row_placeOf l D B K _ b0 _ _ _ _ _ _ _ h2) dX6_liesInRow_20 h2 rfl g_ml_X6_41 g_im_yX6_placeOf g_se_X6_yX6_placeOf_yX6_placeOf g_in_X6 g_cd_yX6_placeOf (rn_le (by decide)) (by decide) rfl rfl hdn_yX6_placeOf (Nat.le_of_ble_eq_true rfl) ⟨Nat.le_of_ble_eq_true rfl, Nat.le_of_ble_eq_true rfl⟩) (fun r_20 f_20 hp_20 => ?_)
    obtain ⟨rfl, rfl⟩ := hp_20
    refine v_ldc2 C dX6_liesInRow_23 g_kl_X6_25 ?_
    refine v_lc_ne (tgt := 32) C dX6_liesInRow_26 dX6_liesInRow_27 (by decide) (fun c_26 => ?_) (fun c_26 => ?_)
    · refine v_aload_n C dX6_liesInRow_32 rfl rfl ?_
      refine v_get C dX6_liesInRow_33 3 h0 rfl in_X6 (by decide) g_fl_X6_22 (fun x9 h9 => u_same (C.2.2.2.2.1 _ g_sf_X6_size) x9 h9) rfl ?_
      refine v_lconst (v := 1) C dX6_liesInRow_36 (by decide) ?_
      refine v_lc_eq (tgt := 60) C dX6_liesInRow_37 dX6_liesInRow_38 (by decide) (fun c_37 => ?_) (fun c_37 => ?_)
      · refine v_iconst (v := 1) C dX6_liesInRow_60 (by decide) ?_
        refine v_goto (tgt := 65) C dX6_liesInRow_61 (by decide) ?_
        exact v_zret C hr hlk dX6_liesInRow_65 rfl (Nat.le_refl _) (Nat.le_refl _) ⟨by unfold lirC; rw [if_neg c_11, if_neg c_26, if_pos c_37], rfl⟩
      · refine v_aload_n C dX6_liesInRow_41 rfl rfl ?_
        refine v_get C dX6_liesInRow_42 6 h2 rfl in_X6 (by decide) g_fl_X6_18 (fun _ h9 => h9) rfl ?_
        refine v_if_eq (tgt := 64) C dX6_liesInRow_45 (by decide) (fun c_45 => ?_) (fun c_45 => ?_)
        · refine v_iconst (v := 0) C dX6_liesInRow_64 (by decide) ?_
          exact v_zret C hr hlk dX6_liesInRow_65 rfl (Nat.le_refl _) (Nat.le_refl _) ⟨by unfold lirC; rw [if_neg c_11, if_neg c_26, if_neg c_37, if_pos c_45], rfl⟩
        · refine v_aload_n C dX6_liesInRow_48 rfl rfl ?_
          refine v_get C dX6_liesInRow_49 6 h0 rfl in_X6 (by decide) g_fl_X6_18 (fun _ h9 => h9) rfl ?_
          refine v_aload_n C dX6_liesInRow_52 rfl rfl ?_
          refine v_get C dX6_liesInRow_53 6 h2 rfl in_X6 (by decide) g_fl_X6_18 (fun _ h9 => h9) rfl ?_
          refine v_irem C dX6_liesInRow_56 (by assumption) ?_
          refine v_if_ne (tgt := 64) C dX6_liesInRow_57 (by decide) (fun c_57 => ?_) (fun c_57 => ?_)
          · refine v_iconst (v := 0) C dX6_liesInRow_64 (by decide) ?_
            exact v_zret C hr hlk dX6_liesInRow_65 rfl (Nat.le_refl _) (Nat.le_refl _) ⟨by unfold lirC; rw [if_neg c_11, if_neg c_26, if_neg c_37, if_neg c_45, if_neg c_57], rfl⟩
          · refine v_iconst (v := 1) C dX6_liesInRow_60 (by decide) ?_
            refine v_goto (tgt := 65) C dX6_liesInRow_61 (by decide) ?_
            exact v_zret C hr hlk dX6_liesInRow_65 rfl (Nat.le_refl _) (Nat.le_refl _) ⟨by unfold lirC; rw [if_neg c_11, if_neg c_26, if_neg c_37, if_neg c_45, if_pos c_57], rfl⟩
    · refine v_iconst (v := 0) C dX6_liesInRow_30 (by decide) ?_
      exact v_zret C hr hlk dX6_liesInRow_31 rfl (Nat.le_refl _) (Nat.le_refl _) ⟨by unfold lirC; rw [if_neg c_11, if_pos c_26], rfl⟩

