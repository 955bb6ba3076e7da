/-! place: beside; then all ranges by their numbers -/
theorem take_fm {js : List Nat} {tt j : Nat} (E : Nat → List Ent) (hj : js[tt]? = some j) : (js.take (tt + 1)).flatMap E = (js.take tt).flatMap E ++ E j := by
  rw [List.take_succ, hj, List.flatMap_append]
  simp
theorem split_fm {js : List Nat} {tt j : Nat} (E : Nat → List Ent) (hj : js[tt]? = some j) : js.flatMap E = (js.take tt).flatMap E ++ (E j ++ (js.drop (tt + 1)).flatMap E) := by
  have h1 : js = js.take (tt + 1) ++ js.drop (tt + 1) := (List.take_append_drop _ _).symm
  conv => lhs; rw [h1, List.flatMap_append, take_fm E hj, List.append_assoc]
theorem fm_len {js : List Nat} {tt j : Nat} (E : Nat → List Ent) (hj : js[tt]? = some j) : ((js.take tt).flatMap E).length + (E j).length ≤ (js.flatMap E).length := by
  rw [split_fm E hj, List.length_append, List.length_append]
  omega
theorem be_next {sg : Nat → Sg} {h : Nat → Int64} {E : Nat → List Ent} {js : List Nat} {tt j a : Nat} (hj : js[tt]? = some j) : plC (tmC (sat (idxE sg h ((js.take tt).flatMap E) a 0)) (sat (prodE sg (E j)))) (sat (idxE sg h (E j) (a + ((js.take tt).flatMap E).length) 0)) = sat (idxE sg h ((js.take (tt + 1)).flatMap E) a 0) := by
  rw [tm_sat, pl_sat, take_fm E hj, idx_app, idx_acc sg h (E j) _ (idxE sg h ((js.take tt).flatMap E) a 0)]
theorem be_wide {E : Nat → List Ent} {js : List Nat} {tt j a : Nat} (hj : js[tt]? = some j) : nI (a + ((js.take tt).flatMap E).length) + nI (E j).length = nI (a + ((js.take (tt + 1)).flatMap E).length) := by
  rw [nI_add, take_fm E hj, List.length_append, Nat.add_assoc]
theorem be_none {sg : Nat → Sg} {h : Nat → Int64} {E : Nat → List Ent} {js : List Nat} {tt j a : Nat} (hj : js[tt]? = some j) (h1 : missE sg h ((js.take tt).flatMap E) a = none) (h2 : missE sg h (E j) (a + ((js.take tt).flatMap E).length) = none) : missE sg h ((js.take (tt + 1)).flatMap E) a = none := by
  rw [take_fm E hj, miss_app, h1]
  exact h2
theorem be_some {sg : Nat → Sg} {h : Nat → Int64} {E : Nat → List Ent} {js : List Nat} {tt j a : Nat} {q : Nat × Ent} (hj : js[tt]? = some j) (h1 : missE sg h ((js.take tt).flatMap E) a = none) (h2 : missE sg h (E j) (a + ((js.take tt).flatMap E).length) = some q) : missE sg h (js.flatMap E) a = some q := by
  rw [split_fm E hj, miss_app, h1]
  show missE sg h (E j ++ _) (a + _) = some q
  rw [miss_app, h2]
set_option maxHeartbeats 4000000 in
set_option maxRecDepth 100000 in
theorem L_Beside_place {p : Program} {l : Launch} {e : Env} {s : State} {m : MethodId} {args : Array Value} {below : List Frame} {meth : Method} {c : Code} {D : va_G} {B : Nat} {K : Nat → ClassId} (C : Cx p s m args c cX1_place 14 yX1_place.cls D B K) (hr : meth.sig.returnType = some .long) (hlk : meth.locks = false) (f : St) (sg : Nat → Sg) (E : Nat → List Ent) (ra : Nat → Nat) (kd : Nat → Int32) (fi : St) (i hh ha mm a : Nat) (h : Nat → Int64) (t x y z d : Int32) (hok : ∀ o, okS (sg o)) (hI : Imm fi f) (hH : f hh = some (.inr (2, [.ref ha]))) (hA : f ha = some (.inl (K 1, 8, .inr (.inl h)))) (hM : f mm = some (.inr (3, [.int t, .int x, .int y, .int z]))) (hw9 : a + (E i).length ≤ 8) (js : List Nat) (pa : Nat) (g : Nat → Option Nat) (hpa : f pa = some (.inl (K 3, js.length, .inr (.inr (.inr (.inr g)))))) (h3 : js.length ≤ 3) (hg : ∀ t j, js[t]? = some j → g t = some (ra j)) (hE : E i = (js.flatMap E).map deepE) (hjs : ∀ j ∈ js, j < i ∧ RTi K sg E ra kd fi j ∧ PLk l D B K sg E ra fi j) : ∀ (n tt : Nat), tt ≤ js.length → js.length + 1 ≤ tt + n → missE sg h ((js.take tt).flatMap E) a = none → V p l e (RM (i + 2) 0 0) s m args below meth c D B 14 (MQ below (Ql_ D B (fun r f9 => r = plR sg h (E i) a ∧ f9 = plF f mm t d (missE sg h (E i) a))) args s 0 0 (AB B)) 0 0 f (lof [(1, .ref hh), (3, .int d), (4, .ref mm), (5, .long (sat (idxE sg h ((js.take tt).flatMap E) a 0))), (7, .int (nI (a + ((js.take tt).flatMap E).length))), (8, .ref pa), (9, .int (nI js.length)), (10, .int (nI tt))]) 20 [] := by
  have hw9 : a + (js.flatMap E).length ≤ 8 := by rw [hE, List.length_map] at hw9; exact hw9
  intro n
  induction n with
  | zero => intro tt h1 h2; omega
  | succ n ih =>
    intro tt htt hin hm
    refine v_iload C dX1_place_20 rfl ?_
    refine v_iload C dX1_place_22 rfl ?_
    by_cases hlt : tt < js.length
    · refine v_icmp_ge (tgt := 95) C dX1_place_24 (by decide) (fun c9 => absurd c9 (nI_ge hlt (by omega))) (fun _ => ?_)
      obtain ⟨j, hj⟩ : ∃ j, js[tt]? = some j := ⟨_, List.getElem?_eq_getElem hlt⟩
      obtain ⟨hji, hTj, hPj⟩ := hjs j (List.mem_of_getElem? hj)
      obtain ⟨ci, fs, hci, hcell, hf0, hf1, hf2, hf3⟩ := RT_hdr hTj
      refine v_aload C dX1_place_27 rfl ?_
      refine v_iload C dX1_place_29 rfl ?_
      refine v_aldq C dX1_place_31 hpa (vp_in_nI hlt (by omega)) ?_
      refine v_rq (by rw [nI_clamp (by omega)]; exact hg tt j hj) ?_
      refine v_astore C dX1_place_32 (by decide) rfl ?_
      refine v_aload C dX1_place_34 rfl ?_
      refine v_aload_n C dX1_place_36 rfl rfl ?_
      refine v_iload C dX1_place_37 rfl ?_
      refine v_iload_n C dX1_place_39 rfl rfl ?_
      refine v_iconst (v := 1) C dX1_place_40 (by decide) ?_
      refine v_iadd C dX1_place_41 ?_
      refine v_aload C dX1_place_42 rfl ?_
      refine v_place (i := j) (a := a + ((js.take tt).flatMap E).length) (d := d + 1) C dX1_place_44 hTj hPj hI hH hA hM (by have h9 := fm_len E hj; omega) g_ml_X1_15 (rn_le (by omega)) rfl (Nat.le_of_ble_eq_true rfl) ⟨Nat.le_refl _, Nat.le_refl _⟩ ?_
      cases hmj : missE sg h (E j) (a + ((js.take tt).flatMap E).length) with
      | some q =>
        have e9 : plR sg h (E j) (a + ((js.take tt).flatMap E).length) = -2 := by unfold plR; rw [hmj]
        refine v_rl e9 ?_
        refine v_lstore C dX1_place_47 (by decide) rfl ?_
        refine v_lload C dX1_place_49 rfl ?_
        refine v_ldc2 C dX1_place_51 g_kl_X1_19 ?_
        refine v_lc_ne (tgt := 62) C dX1_place_54 dX1_place_55 (by decide) (fun c_54 => absurd rfl c_54) (fun c_54 => ?_)
        refine v_ldc2 C dX1_place_58 g_kl_X1_19 ?_
        exact v_lret C hr hlk dX1_place_61 (Nat.le_refl _) (Nat.le_refl _) ⟨by simp [plR, hE, miss_map sg h _ (g := deepE) (fun _ => rfl), be_some hj hm hmj], by simp [plF, hE, miss_map sg h _ (g := deepE) (fun _ => rfl), be_some hj hm hmj, deepE]; rw [nI_succ, Int32.add_assoc, Int32.add_comm 1]⟩
      | none =>
        have e9 : plR sg h (E j) (a + ((js.take tt).flatMap E).length) = sat (idxE sg h (E j) (a + ((js.take tt).flatMap E).length) 0) := by unfold plR; rw [hmj]
        refine v_rl e9 ?_
        refine v_lstore C dX1_place_47 (by decide) rfl ?_
        refine v_lload C dX1_place_49 rfl ?_
        refine v_ldc2 C dX1_place_51 g_kl_X1_19 ?_
        refine v_lc_ne (tgt := 62) C dX1_place_54 dX1_place_55 (by decide) (fun c_54 => ?_) (fun c_54 => absurd c_54 (sat_n2 _))
        refine v_lload C dX1_place_62 rfl ?_
        refine v_aload C dX1_place_64 rfl ?_
        refine v_getR C dX1_place_66 3 (by decide) hci (hI _ _ hcell) g_fl_X1_21 hf3 ?_
        refine v_cl (r_SN (host := RX8) C (c_times l D B K _ _ _) dX1_place_69 (by decide +kernel) g_st_yX8_times g_in_X8 g_cd_yX8_times (rn_le (by omega)) (by decide) rfl hdn_yX8_times (Nat.le_of_ble_eq_true rfl) ⟨Nat.le_of_ble_eq_true rfl, Nat.le_of_ble_eq_true rfl⟩) (fun r_69 f_69 hp_69 => ?_)
        obtain ⟨rfl, rfl⟩ := hp_69
        refine v_lload C dX1_place_72 rfl ?_
        refine v_cl (r_SN (host := RX8) C (c_plus l D B K _ _ _) dX1_place_74 (by decide +kernel) g_st_yX8_plus g_in_X8 g_cd_yX8_plus (rn_le (by omega)) (by decide) rfl hdn_yX8_plus (Nat.le_of_ble_eq_true rfl) ⟨Nat.le_of_ble_eq_true rfl, Nat.le_of_ble_eq_true rfl⟩) (fun r_74 f_74 hp_74 => ?_)
        obtain ⟨rfl, rfl⟩ := hp_74
        refine v_rl (be_next hj) ?_
        refine v_lstore C dX1_place_77 (by decide) rfl ?_
        refine v_iload C dX1_place_79 rfl ?_
        refine v_aload C dX1_place_81 rfl ?_
        refine v_getR C dX1_place_83 2 (by decide) hci (hI _ _ hcell) g_fl_X1_32 hf2 ?_
        refine v_iadd C dX1_place_86 ?_
        refine v_ri (be_wide hj) ?_
        refine v_istore C dX1_place_87 (by decide) rfl ?_
        refine v_iinc (y := 1) C dX1_place_89 rfl (by decide) (by decide) rfl ?_
        refine v_goto (tgt := 20) C dX1_place_92 (by decide) ?_
        refine v_loc [(1, .ref hh), (3, .int d), (4, .ref mm), (5, .long (sat (idxE sg h ((js.take (tt + 1)).flatMap E) a 0))), (7, .int (nI (a + ((js.take (tt + 1)).flatMap E).length))), (8, .ref pa), (9, .int (nI js.length)), (10, .int (nI (tt + 1)))] (lsub_c rfl (lsub_c rfl (lsub_c rfl (lsub_c rfl (lsub_c rfl (lsub_c rfl (lsub_c rfl (lsub_c (by rw [nI_succ]; rfl) lsub_n)))))))) ?_
        exact ih (tt + 1) hlt (by omega) (be_none hj hm hmj)
    · refine v_icmp_ge (tgt := 95) C dX1_place_24 (by decide) (fun _ => ?_) (fun c9 => absurd (nI_le (by omega) (by omega)) c9)
      refine v_lload C dX1_place_95 rfl ?_
      refine v_lret C hr hlk dX1_place_97 (Nat.le_refl _) (Nat.le_refl _) ⟨?_, ?_⟩
      · rw [plR, hE, miss_map sg h _ (g := deepE) (fun _ => rfl), idx_deep]
        rw [List.take_of_length_le (by omega)] at hm ⊢
        rw [hm]; rfl
      · rw [hE, miss_map sg h _ (g := deepE) (fun _ => rfl)]
        rw [List.take_of_length_le (by omega)] at hm
        rw [hm]; rfl

set_option maxHeartbeats 4000000 in
set_option maxRecDepth 100000 in
theorem c_Beside_place (l : Launch) (D : va_G) (B : Nat) (K : Nat → ClassId) (f : St) (sg : Nat → Sg) (E : Nat → List Ent) (ra : Nat → Nat) (kd : Nat → Int32) (fi : St) (i hh ha mm a : Nat) (h : Nat → Int64) (t x y z d : Int32) (hok : ∀ o, okS (sg o)) (hI : Imm fi f) (hH : f hh = some (.inr (2, [.ref ha]))) (hA : f ha = some (.inl (K 1, 8, .inr (.inl h)))) (hM : f mm = some (.inr (3, [.int t, .int x, .int y, .int z]))) (hw9 : a + (E i).length ≤ 8) (js : List Nat) (pa : Nat) (g : Nat → Option Nat) (hpa : f pa = some (.inl (K 3, js.length, .inr (.inr (.inr (.inr g)))))) (h3 : js.length ≤ 3) (hg : ∀ t j, js[t]? = some j → g t = some (ra j)) (hE : E i = (js.flatMap E).map deepE) (hjs : ∀ j ∈ js, j < i ∧ RTi K sg E ra kd fi j ∧ PLk l D B K sg E ra fi j) (hq : fi (ra i) = some (.inr (1, [.int (nI i), .int (kd i), .int (nI (E i).length), .long (sat (prodE sg (E i))), .ref pa]))) : Kc l D B K yX1_place cX1_place 14 ((some .long)) (i + 2) 0 0 [.ref (ra i), .ref hh, .int (nI a), .int d, .ref mm] f (Ql_ D B (fun r f9 => r = plR sg h (E i) a ∧ f9 = plF f mm t d (missE sg h (E i) a))) := by
  refine v_met [(0, .ref (ra i)), (1, .ref hh), (2, .int (nI a)), (3, .int d), (4, .ref mm)] (by decide) (Nat.le_of_ble_eq_true rfl) rfl ?_
  intro p e s m args below meth c C hr hlk hin
  have h0 := hI _ _ hq
  refine v_lconst (v := 0) C dX1_place_0 (by decide) ?_
  refine v_lstore C dX1_place_1 (by decide) rfl ?_
  refine v_iload_n C dX1_place_3 rfl rfl ?_
  refine v_istore C dX1_place_4 (by decide) rfl ?_
  refine v_aload_n C dX1_place_6 rfl rfl ?_
  refine v_get C dX1_place_7 4 h0 rfl in_X1 (by decide) g_fl_X1_9 (fun _ h9 => h9) rfl ?_
  refine v_astore C dX1_place_10 (by decide) rfl ?_
  refine v_aload C dX1_place_12 rfl ?_
  refine v_alen C dX1_place_14 3 hpa rfl rfl ?_
  refine v_istore C dX1_place_15 (by decide) rfl ?_
  refine v_iconst (v := 0) C dX1_place_17 (by decide) ?_
  refine v_istore C dX1_place_18 (by decide) rfl ?_
  refine v_loc [(1, .ref hh), (3, .int d), (4, .ref mm), (5, .long (sat (idxE sg h ((js.take 0).flatMap E) a 0))), (7, .int (nI (a + ((js.take 0).flatMap E).length))), (8, .ref pa), (9, .int (nI js.length)), (10, .int (nI 0))] (lsub_c rfl (lsub_c rfl (lsub_c rfl (lsub_c rfl (lsub_c rfl (lsub_c rfl (lsub_c rfl (lsub_c rfl lsub_n)))))))) ?_
  exact L_Beside_place C hr hlk f sg E ra kd fi i hh ha mm a h t x y z d hok hI hH hA hM hw9 js pa g hpa h3 hg hE hjs (js.length + 1) 0 (Nat.zero_le _) (by omega) rfl

theorem place_all (l : Launch) (D : va_G) (B : Nat) (K : Nat → ClassId) {sg : Nat → Sg} {E : Nat → List Ent} {ra : Nat → Nat} {kd : Nat → Int32} {fi : St} {n : Nat} (hT : RT K sg E ra kd fi n) : ∀ i, i < n → PLk l D B K sg E ra fi i := by
  intro i
  induction i using Nat.strongRecOn with
  | _ i ih =>
    intro hi f hh ha mm a h t x y z d hI hH hA hM hw9
    obtain ⟨hok, hT2⟩ := hT
    rcases (hT2 i hi).1 with ⟨⟨fst, lst, sp, q1, q2⟩ | ⟨ar, fs, q1, q2⟩, hE⟩ | ⟨j, hj, q1, q2, hE⟩ | ⟨js, pa, g, q0, q3, q1, q2, q4, hE⟩
    · refine ⟨fun _ => c_Single_place_X6 l D B K f sg E ra kd fi i hh ha mm a h t x y z d fst lst sp q2 hok hI hH hA hM hw9 q1 hE, fun h9 => ?_, fun h9 => ?_⟩
      · obtain ⟨fs, h9⟩ := h9; rw [q1] at h9; simp at h9
      · obtain ⟨fs, h9⟩ := h9; rw [q1] at h9; simp at h9
    · refine ⟨fun _ => c_Single_place_X4 l D B K f sg E ra kd fi i hh ha mm a h t x y z d ar fs q2 hok hI hH hA hM hw9 q1 hE, fun h9 => ?_, fun h9 => ?_⟩
      · obtain ⟨fs, h9⟩ := h9; rw [q1] at h9; simp at h9
      · obtain ⟨fs, h9⟩ := h9; rw [q1] at h9; simp at h9
    · refine ⟨fun h9 => ?_, fun _ => c_Back_place l D B K f sg E ra kd fi i hh ha mm a h t x y z d j hok hI hH hA hM hw9 q1 hj q2 hE (hT2 j (by omega)).1 (ih j hj (by omega)), fun h9 => ?_⟩
      · rcases h9 with ⟨fs, h9⟩ | ⟨fs, h9⟩ <;> (rw [q1] at h9; simp at h9)
      · obtain ⟨fs, h9⟩ := h9; rw [q1] at h9; simp at h9
    · refine ⟨fun h9 => ?_, fun h9 => ?_, fun _ => c_Beside_place l D B K f sg E ra kd fi i hh ha mm a h t x y z d hok hI hH hA hM hw9 js pa g (hI _ _ q2) q3 q4 hE (fun j hj => ⟨q0 j hj, (hT2 j (by have := q0 j hj; omega)).1, ih j (q0 j hj) (by have := q0 j hj; omega)⟩) q1⟩
      · rcases h9 with ⟨fs, h9⟩ | ⟨fs, h9⟩ <;> (rw [q1] at h9; simp at h9)
      · obtain ⟨fs, h9⟩ := h9; rw [q1] at h9; simp at h9
