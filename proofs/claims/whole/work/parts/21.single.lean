/-! singleAt: the single that a number comes from -/
def SAk (l : Launch) (D : va_G) (B : Nat) (K : Nat → ClassId) (E : Nat → List Ent) (ra : Nat → Nat) (fi : St) (i : Nat) : Prop :=
  ∀ (f : St) (t : Nat) (e9 : Ent), Imm fi f → (E i)[t]? = some e9 → (E i).length ≤ 8 →
    (((∃ fs, fi (ra i) = some (.inr (5, fs))) ∨ ∃ fs, fi (ra i) = some (.inr (4, fs))) → Kc l D B K yX7_singleAt cX7_singleAt 2 ((some (.object "IndexRanges$Single"))) (i + 2) 0 0 [.ref (ra i), .int (nI t)] f (Qq_ D B (fun r f9 => r = some (ra e9.1) ∧ f9 = f))) ∧
    ((∃ fs, fi (ra i) = some (.inr (0, fs))) → Kc l D B K yX0_singleAt cX0_singleAt 2 ((some (.object "IndexRanges$Single"))) (i + 2) 0 0 [.ref (ra i), .int (nI t)] f (Qq_ D B (fun r f9 => r = some (ra e9.1) ∧ f9 = f))) ∧
    ((∃ fs, fi (ra i) = some (.inr (1, fs))) → Kc l D B K yX1_singleAt cX1_singleAt 7 ((some (.object "IndexRanges$Single"))) (i + 2) 0 0 [.ref (ra i), .int (nI t)] f (Qq_ D B (fun r f9 => r = some (ra e9.1) ∧ f9 = f)))
section VS
variable {p : Program} {l : Launch} {e : Env} {R : Room} {s : State} {m : MethodId} {args : Array Value} {below : List Frame} {meth : Method} {c : Code} {D : va_G} {B nL : Nat} {Q : State → Prop} {ce sl : Nat} {f : St} {lv : Lv} {pc : Nat} {st : List Value} {cc : ByteArray} {own : String} {K : Nat → ClassId}
theorem v_single (C : Cx p s m args c cc nL own D B K) {sg : Nat → Sg} {E : Nat → List Ent} {ra : Nat → Nat} {kd : Nat → Int32} {fi : St} {i index t : Nat} {e9 : Ent} {rest : List Value} (hd : decode cc pc = .ok (.invokevirtual index, 3)) (hT : RTi K sg E ra kd fi i) (hP : SAk l D B K E ra fi i) (hI : Imm fi f) (he : (E i)[t]? = some e9) (h8 : (E i).length ≤ 8)
    (g1 : Cond.methodLink own index xR_singleAt ∈ GT) (hR : RN R (i + 2 + 1)) (hst : st = [Value.int (nI t), .ref (ra i)] ++ rest) (hrest : (rest.map fun v => v.category).sum ≤ 8) (hf : ce ≤ R.cells ∧ sl ≤ R.slots)
    (k : V p l e R s m args below meth c D B nL Q ce sl f lv (pc + 3) (.ref (ra e9.1) :: rest)) : V p l e R s m args below meth c D B nL Q ce sl f lv pc st := by
  obtain ⟨h7, h0, h1⟩ := hP f t e9 hI he h8
  have hst2 : st = ([Value.int (nI t)] : List Value).reverse ++ .ref (ra i) :: rest := hst
  rcases hT with ⟨⟨fst, lst, sp, q1, _⟩ | ⟨ar, fs, q1, _⟩, hE⟩ | ⟨j, _, q1, _, hE⟩ | ⟨js, pa, g, _, _, q1, _⟩
  · exact v_cq (r_A (x := xR_singleAt) (owner := RX5) C (h7 (Or.inl ⟨_, q1⟩)) hd (hI _ _ q1) rfl g1 g_sm_X5_X5_singleAt g_se_X6_X5_singleAt_591b_yX7_singleAt g_im_yX7_singleAt g_in_X7 g_cd_yX7_singleAt (by decide +kernel) hR (by decide) hst2 hdn_xR_singleAt hrest hf) (fun r f9 hp => by obtain ⟨rfl, rfl⟩ := hp; exact k)
  · exact v_cq (r_A (x := xR_singleAt) (owner := RX5) C (h7 (Or.inr ⟨_, q1⟩)) hd (hI _ _ q1) rfl g1 g_sm_X5_X5_singleAt g_se_X4_X5_singleAt_591b_yX7_singleAt g_im_yX7_singleAt g_in_X7 g_cd_yX7_singleAt (by decide +kernel) hR (by decide) hst2 hdn_xR_singleAt hrest hf) (fun r f9 hp => by obtain ⟨rfl, rfl⟩ := hp; exact k)
  · exact v_cq (r_A (x := xR_singleAt) (owner := RX5) C (h0 ⟨_, q1⟩) hd (hI _ _ q1) rfl g1 g_sm_X5_X5_singleAt g_se_X0_X5_singleAt_591b_yX0_singleAt g_im_yX0_singleAt g_in_X0 g_cd_yX0_singleAt (by decide +kernel) hR (by decide) hst2 hdn_xR_singleAt hrest hf) (fun r f9 hp => by obtain ⟨rfl, rfl⟩ := hp; exact k)
  · exact v_cq (r_A (x := xR_singleAt) (owner := RX5) C (h1 ⟨_, q1⟩) hd (hI _ _ q1) rfl g1 g_sm_X5_X5_singleAt g_se_X1_X5_singleAt_591b_yX1_singleAt g_im_yX1_singleAt g_in_X1 g_cd_yX1_singleAt (by decide +kernel) hR (by decide) hst2 hdn_xR_singleAt hrest hf) (fun r f9 hp => by obtain ⟨rfl, rfl⟩ := hp; exact k)
end VS
set_option maxHeartbeats 4000000 in
set_option maxRecDepth 100000 in
theorem c_Single_singleAt (l : Launch) (D : va_G) (B : Nat) (K : Nat → ClassId) (f : St) (sg : Nat → Sg) (E : Nat → List Ent) (ra : Nat → Nat) (kd : Nat → Int32) (fi : St) (i t : Nat) (e9 : Ent) (hI : Imm fi f) (he : (E i)[t]? = some e9) (h8 : (E i).length ≤ 8) (hE : E i = [(i, false, 0)]) : Kc l D B K yX7_singleAt cX7_singleAt 2 ((some (.object "IndexRanges$Single"))) (i + 2) 0 0 [.ref (ra i), .int (nI t)] f (Qq_ D B (fun r f9 => r = some (ra e9.1) ∧ f9 = f)) := by
  refine v_met [(0, .ref (ra i)), (1, .int (nI t))] (by decide) (Nat.le_of_ble_eq_true rfl) rfl ?_
  intro p e s m args below meth c C hr hlk hin
  have ht0 : t = 0 ∧ e9 = (i, false, 0) := by
    rw [hE] at he
    cases t with
    | zero => exact ⟨rfl, (Option.some.inj he).symm⟩
    | succ t => simp at he
  have ht : nI t = 0 := by rw [ht0.1]; rfl
  have hi9 : e9.1 = i := by rw [ht0.2]
  refine v_iload_n C dX7_singleAt_0 rfl rfl ?_
  refine v_if_ne (tgt := 8) C dX7_singleAt_1 (by decide) (fun c_1 => absurd ht c_1) (fun c_1 => ?_)
  refine v_aload_n C dX7_singleAt_4 rfl rfl ?_
  refine v_goto (tgt := 9) C dX7_singleAt_5 (by decide) ?_
  exact v_aret (x := some (ra i)) C hr hlk dX7_singleAt_9 (Nat.le_refl _) (Nat.le_refl _) ⟨by rw [hi9], rfl⟩

set_option maxHeartbeats 4000000 in
set_option maxRecDepth 100000 in
theorem c_Back_singleAt (l : Launch) (D : va_G) (B : Nat) (K : Nat → ClassId) (f : St) (sg : Nat → Sg) (E : Nat → List Ent) (ra : Nat → Nat) (kd : Nat → Int32) (fi : St) (i t : Nat) (e9 : Ent) (j : Nat) (hI : Imm fi f) (he : (E i)[t]? = some e9) (h8 : (E i).length ≤ 8) (hq : fi (ra i) = some (.inr (0, [.int (nI i), .int (kd i), .int (nI (E j).length), .long (sat (prodE sg (E j))), .ref (ra j)]))) (hji : j < i) (hE : E i = (E j).map flipE) (hTj : RTi K sg E ra kd fi j) (hPj : SAk l D B K E ra fi j) : Kc l D B K yX0_singleAt cX0_singleAt 2 ((some (.object "IndexRanges$Single"))) (i + 2) 0 0 [.ref (ra i), .int (nI t)] f (Qq_ D B (fun r f9 => r = some (ra e9.1) ∧ f9 = f)) := by
  refine v_met [(0, .ref (ra i)), (1, .int (nI t))] (by decide) (Nat.le_of_ble_eq_true rfl) rfl ?_
  intro p e s m args below meth c C hr hlk hin
  have h8j : (E j).length ≤ 8 := by rw [hE, List.length_map] at h8; exact h8
  obtain ⟨e8, he8, hee⟩ : ∃ e8, (E j)[t]? = some e8 ∧ flipE e8 = e9 := by
    rw [hE, List.getElem?_map] at he
    exact Option.map_eq_some_iff.mp he
  refine v_aload_n C dX0_singleAt_0 rfl rfl ?_
  refine v_get C dX0_singleAt_1 4 (hI _ _ hq) rfl in_X0 (by decide) g_fl_X0_17 (fun _ h9 => h9) rfl ?_
  refine v_iload_n C dX0_singleAt_4 rfl rfl ?_
  refine v_single (i := j) (t := t) (e9 := e8) C dX0_singleAt_5 hTj hPj hI he8 h8j g_ml_X0_34 (rn_le (by omega)) rfl (Nat.le_of_ble_eq_true rfl) ⟨Nat.le_refl _, Nat.le_refl _⟩ ?_
  exact v_aret (x := some (ra e8.1)) C hr hlk dX0_singleAt_8 (Nat.le_refl _) (Nat.le_refl _) ⟨by rw [← hee]; rfl, rfl⟩

set_option maxHeartbeats 4000000 in
set_option maxRecDepth 100000 in
theorem L_Beside_singleAt {p : Program} {l : Launch} {e : Env} {s : State} {m : MethodId} {args : Array Value} {below : List Frame} {meth : Method} {c : Code} {D : va_G} {B : Nat} {K : Nat → ClassId} (C : Cx p s m args c cX1_singleAt 7 yX1_singleAt.cls D B K) (hr : meth.sig.returnType = (some (.object "IndexRanges$Single"))) (hlk : meth.locks = false) (f : St) (sg : Nat → Sg) (E : Nat → List Ent) (ra : Nat → Nat) (kd : Nat → Int32) (fi : St) (i t : Nat) (e9 : Ent) (hI : Imm fi f) (he : (E i)[t]? = some e9) (h8 : (E i).length ≤ 8) (js : List Nat) (pa : Nat) (g : Nat → Option Nat) (hq : fi (ra i) = some (.inr (1, [.int (nI i), .int (kd i), .int (nI (E i).length), .long (sat (prodE sg (E i))), .ref pa]))) (hpa : fi pa = some (.inl (K 3, js.length, .inr (.inr (.inr (.inr g)))))) (h3 : js.length ≤ 3) (hg : ∀ t j, js[t]? = some j → g t = some (ra j)) (hE : E i = (js.flatMap E).map deepE) (hjs : ∀ j ∈ js, j < i ∧ RTi K sg E ra kd fi j ∧ SAk l D B K E ra fi j) : ∀ (n tt : Nat), tt ≤ js.length → js.length + 1 ≤ tt + n → ((js.take tt).flatMap E).length ≤ t → V p l e (RM (i + 2) 0 0) s m args below meth c D B 7 (MQ below (Qq_ D B (fun r f9 => r = some (ra e9.1) ∧ f9 = f)) args s 0 0 (AB B)) 0 0 f (lof [(2, .int (nI (t - ((js.take tt).flatMap E).length))), (3, .ref pa), (4, .int (nI js.length)), (5, .int (nI tt))]) 14 [] := by
  have h8 : (js.flatMap E).length ≤ 8 := by rw [hE, List.length_map] at h8; exact h8
  obtain ⟨e7, he7, hee7⟩ : ∃ e8, (js.flatMap E)[t]? = some e8 ∧ deepE e8 = e9 := by
    rw [hE, List.getElem?_map] at he
    exact Option.map_eq_some_iff.mp he
  have htl := (List.getElem?_eq_some_iff.mp he7).1
  intro n
  induction n with
  | zero => intro tt h1 h2; omega
  | succ n ih =>
    intro tt htt hin hle
    have hlt : tt < js.length := by
      rcases Nat.lt_or_ge tt js.length with q | q
      · exact q
      · rw [List.take_of_length_le q] at hle; omega
    obtain ⟨j, hj⟩ : ∃ j, js[tt]? = some j := ⟨_, List.getElem?_eq_getElem hlt⟩
    obtain ⟨hji, hTj, hPj⟩ := hjs j (List.mem_of_getElem? hj)
    obtain ⟨ci, fs, hci, hcell, hf0, hf1, hf2, hf3⟩ := RT_hdr hTj
    refine v_iload C dX1_singleAt_14 rfl ?_
    refine v_iload C dX1_singleAt_16 rfl ?_
    refine v_icmp_ge (tgt := 57) C dX1_singleAt_18 (by decide) (fun c_18 => absurd c_18 (nI_ge hlt (by omega))) (fun c_18 => ?_)
    refine v_aload_n C dX1_singleAt_21 rfl rfl ?_
    refine v_iload C dX1_singleAt_22 rfl ?_
    refine v_aldq C dX1_singleAt_24 (hI _ _ hpa) (vp_in_nI hlt (by omega)) ?_
    refine v_rq (by rw [nI_clamp (by omega)]; exact hg tt j hj) ?_
    refine v_astore C dX1_singleAt_25 (by decide) rfl ?_
    refine v_iload_n C dX1_singleAt_27 rfl rfl ?_
    refine v_aload C dX1_singleAt_28 rfl ?_
    refine v_getR C dX1_singleAt_30 2 (by decide) hci (hI _ _ hcell) g_fl_X1_32 hf2 ?_
    by_cases hin9 : t - ((js.take tt).flatMap E).length < (E j).length
    · obtain ⟨e8, he8, hee⟩ : ∃ e8, (E j)[t - ((js.take tt).flatMap E).length]? = some e8 ∧ deepE e8 = e9 := by
        rw [split_fm E hj, List.getElem?_append_right hle, List.getElem?_append_left hin9] at he7
        exact ⟨e7, he7, hee7⟩
      refine v_icmp_ge (tgt := 43) C dX1_singleAt_33 (by decide) (fun c_33 => absurd c_33 (nI_ge hin9 (by have h9 := fm_len E hj; omega))) (fun c_33 => ?_)
      refine v_aload C dX1_singleAt_36 rfl ?_
      refine v_iload_n C dX1_singleAt_38 rfl rfl ?_
      refine v_single (i := j) (t := t - ((js.take tt).flatMap E).length) (e9 := e8) C dX1_singleAt_39 hTj hPj hI he8 (by have h9 := fm_len E hj; omega) g_ml_X1_41 (rn_le (by omega)) rfl (Nat.le_of_ble_eq_true rfl) ⟨Nat.le_refl _, Nat.le_refl _⟩ ?_
      exact v_aret (x := some (ra e8.1)) C hr hlk dX1_singleAt_42 (Nat.le_refl _) (Nat.le_refl _) ⟨by rw [← hee]; rfl, rfl⟩
    · refine v_icmp_ge (tgt := 43) C dX1_singleAt_33 (by decide) (fun c_33 => ?_) (fun c_33 => absurd (nI_le (by omega) (by omega)) c_33)
      refine v_iload_n C dX1_singleAt_43 rfl rfl ?_
      refine v_aload C dX1_singleAt_44 rfl ?_
      refine v_getR C dX1_singleAt_46 2 (by decide) hci (hI _ _ hcell) g_fl_X1_32 hf2 ?_
      refine v_isub C dX1_singleAt_49 ?_
      refine v_ri (show nI (t - ((js.take tt).flatMap E).length) - nI (E j).length = nI (t - ((js.take (tt + 1)).flatMap E).length) by rw [pk_sub (by omega), take_fm E hj, List.length_append]; congr 1; omega) ?_
      refine v_istore_n C dX1_singleAt_50 rfl (by decide) rfl ?_
      refine v_iinc (y := 1) C dX1_singleAt_51 rfl (by decide) (by decide) rfl ?_
      refine v_goto (tgt := 14) C dX1_singleAt_54 (by decide) ?_
      refine v_loc [(2, .int (nI (t - ((js.take (tt + 1)).flatMap E).length))), (3, .ref pa), (4, .int (nI js.length)), (5, .int (nI (tt + 1)))] (lsub_c rfl (lsub_c rfl (lsub_c rfl (lsub_c (by rw [nI_succ]; rfl) lsub_n)))) ?_
      exact ih (tt + 1) hlt (by omega) (by rw [take_fm E hj, List.length_append]; omega)

set_option maxHeartbeats 4000000 in
set_option maxRecDepth 100000 in
theorem c_Beside_singleAt (l : Launch) (D : va_G) (B : Nat) (K : Nat → ClassId) (f : St) (sg : Nat → Sg) (E : Nat → List Ent) (ra : Nat → Nat) (kd : Nat → Int32) (fi : St) (i t : Nat) (e9 : Ent) (hI : Imm fi f) (he : (E i)[t]? = some e9) (h8 : (E i).length ≤ 8) (js : List Nat) (pa : Nat) (g : Nat → Option Nat) (hq : fi (ra i) = some (.inr (1, [.int (nI i), .int (kd i), .int (nI (E i).length), .long (sat (prodE sg (E i))), .ref pa]))) (hpa : fi pa = some (.inl (K 3, js.length, .inr (.inr (.inr (.inr g)))))) (h3 : js.length ≤ 3) (hg : ∀ t j, js[t]? = some j → g t = some (ra j)) (hE : E i = (js.flatMap E).map deepE) (hjs : ∀ j ∈ js, j < i ∧ RTi K sg E ra kd fi j ∧ SAk l D B K E ra fi j) : Kc l D B K yX1_singleAt cX1_singleAt 7 ((some (.object "IndexRanges$Single"))) (i + 2) 0 0 [.ref (ra i), .int (nI t)] f (Qq_ D B (fun r f9 => r = some (ra e9.1) ∧ f9 = f)) := by
  refine v_met [(0, .ref (ra i)), (1, .int (nI t))] (by decide) (Nat.le_of_ble_eq_true rfl) rfl ?_
  intro p e s m args below meth c C hr hlk hin
  refine v_iload_n C dX1_singleAt_0 rfl rfl ?_
  refine v_istore_n C dX1_singleAt_1 rfl (by decide) rfl ?_
  refine v_aload_n C dX1_singleAt_2 rfl rfl ?_
  refine v_get C dX1_singleAt_3 4 (hI _ _ hq) rfl in_X1 (by decide) g_fl_X1_9 (fun _ h9 => h9) rfl ?_
  refine v_astore_n C dX1_singleAt_6 rfl (by decide) rfl ?_
  refine v_aload_n C dX1_singleAt_7 rfl rfl ?_
  refine v_alen C dX1_singleAt_8 3 (hI _ _ hpa) rfl rfl ?_
  refine v_istore C dX1_singleAt_9 (by decide) rfl ?_
  refine v_iconst (v := 0) C dX1_singleAt_11 (by decide) ?_
  refine v_istore C dX1_singleAt_12 (by decide) rfl ?_
  refine v_loc [(2, .int (nI (t - ((js.take 0).flatMap E).length))), (3, .ref pa), (4, .int (nI js.length)), (5, .int (nI 0))] (lsub_c rfl (lsub_c rfl (lsub_c rfl (lsub_c rfl lsub_n)))) ?_
  exact L_Beside_singleAt C hr hlk f sg E ra kd fi i t e9 hI he h8 js pa g hq hpa h3 hg hE hjs (js.length + 1) 0 (Nat.zero_le _) (by omega) (Nat.zero_le _)

theorem single_all (l : Launch) (D : va_G) (B : Nat) (K : Nat → ClassId) {sg : Nat → Sg} {E : Nat → List Ent} {ra : Nat → Nat} {kd : Nat → Int32} {fi : St} {n : Nat} (hT : RT K sg E ra kd fi n) : ∀ i, i < n → SAk l D B K E ra fi i := by
  intro i
  induction i using Nat.strongRecOn with
  | _ i ih =>
    intro hi f t e9 hI he h8
    obtain ⟨hok, hT2⟩ := hT
    rcases (hT2 i hi).1 with ⟨⟨fst, lst, sp, q1, q2⟩ | ⟨ar, fs, q1, q2⟩, hE⟩ | ⟨j, hj, q1, q2, hE⟩ | ⟨js, pa, g, q0, q3, q1, q2, q4, hE⟩
    · refine ⟨fun _ => c_Single_singleAt l D B K f sg E ra kd fi i t e9 hI he h8 hE, fun h9 => ?_, fun h9 => ?_⟩
      · obtain ⟨fs, h9⟩ := h9; rw [q1] at h9; simp at h9
      · obtain ⟨fs, h9⟩ := h9; rw [q1] at h9; simp at h9
    · refine ⟨fun _ => c_Single_singleAt l D B K f sg E ra kd fi i t e9 hI he h8 hE, fun h9 => ?_, fun h9 => ?_⟩
      · obtain ⟨fs, h9⟩ := h9; rw [q1] at h9; simp at h9
      · obtain ⟨fs, h9⟩ := h9; rw [q1] at h9; simp at h9
    · refine ⟨fun h9 => ?_, fun _ => c_Back_singleAt l D B K f sg E ra kd fi i t e9 j hI he h8 q1 hj hE (hT2 j (by omega)).1 (ih j hj (by omega)), fun h9 => ?_⟩
      · rcases h9 with ⟨fs, h9⟩ | ⟨fs, h9⟩ <;> (rw [q1] at h9; simp at h9)
      · obtain ⟨fs, h9⟩ := h9; rw [q1] at h9; simp at h9
    · refine ⟨fun h9 => ?_, fun h9 => ?_, fun _ => c_Beside_singleAt l D B K f sg E ra kd fi i t e9 hI he h8 js pa g q1 q2 q3 q4 hE (fun j hj => ⟨q0 j hj, (hT2 j (by have := q0 j hj; omega)).1, ih j (q0 j hj) (by have := q0 j hj; omega)⟩)⟩
      · rcases h9 with ⟨fs, h9⟩ | ⟨fs, h9⟩ <;> (rw [q1] at h9; simp at h9)
      · obtain ⟨fs, h9⟩ := h9; rw [q1] at h9; simp at h9
