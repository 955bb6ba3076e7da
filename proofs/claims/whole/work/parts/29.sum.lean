/-! the program: cells of arrays, sums -/
set_option maxHeartbeats 4000000 in
set_option maxRecDepth 100000 in
theorem c_cellOfHand_yes (l : Launch) (D : va_G) (B : Nat) (K : Nat → ClassId) (f : St) (q : Nat → Nat) (n na : Nat) (fi : St) (sg : Nat → Sg) (E : Nat → List Ent) (ra : Nat → Nat) (kd : Nat → Int32) (i : Nat) (t x y z : Int32) (h : Nat → Int64) (h0 : f (q 0) = some (.inr (6, [.ref (q 1), .ref (q 2), .ref (q 3), .ref (q 4), .ref (q 5), .ref (q 6), .int (nI n), .int (nI na)]))) (hn40 : n ≤ 40) (hT : RT K sg E ra kd fi n) (hI : Imm fi f) (h1 : f (q 1) = some (.inr (2, [.ref (q 7)]))) (h7 : f (q 7) = some (.inl (K 1, 8, .inr (.inl h)))) (h3 : f (q 3) = some (.inr (3, [.int t, .int x, .int y, .int z]))) (hi : i < n) (hz : prodE sg (E i) ≤ 400) (hm : missE sg h (E i) 0 = none) : Kc l D B K yX8_cellOfHand cX8_cellOfHand 4 ((some .int)) 44 0 0 [.ref (q 0), .ref (ra i)] f (Qi_ D B (fun r f9 => r = nI (idxE sg h (E i) 0 0) ∧ f9 = f)) := by
  refine v_met [(0, .ref (q 0)), (1, .ref (ra i))] (by decide) (Nat.le_of_ble_eq_true rfl) rfl ?_
  intro p e s m args below meth c C hr hlk hin
  have hix := idx_lt hT.1 hm
  refine v_aload_n C dX8_cellOfHand_0 rfl rfl ?_
  refine v_aload_n C dX8_cellOfHand_1 rfl rfl ?_
  refine v_cl (r_V C (c_placeOfHand l D B K _ q n na fi sg E ra kd i t x y z h h0 hT hn40 hi hI h1 h7 h3) dX8_cellOfHand_2 h0 rfl g_ml_X8_118 g_im_yX8_placeOfHand g_se_X8_yX8_placeOfHand_yX8_placeOfHand g_in_X8 g_cd_yX8_placeOfHand (rn_le (by decide)) (by decide) rfl rfl hdn_yX8_placeOfHand (Nat.le_of_ble_eq_true rfl) ⟨Nat.le_of_ble_eq_true rfl, Nat.le_of_ble_eq_true rfl⟩) (fun r_2 f_2 hp_2 => ?_)
  obtain ⟨rfl, hf9⟩ := hp_2
  rw [hm] at hf9
  have hf9 := hf9.symm
  subst hf9
  refine v_rl (show plR sg h (E i) 0 = lN (idxE sg h (E i) 0 0) by unfold plR; rw [hm]; exact sat_lt (by omega)) ?_
  refine v_lstore_n C dX8_cellOfHand_5 rfl (by decide) rfl ?_
  refine v_lload_n C dX8_cellOfHand_6 rfl rfl ?_
  refine v_lconst (v := 0) C dX8_cellOfHand_7 (by decide) ?_
  refine v_lc_lt (tgt := 25) C dX8_cellOfHand_8 dX8_cellOfHand_9 (by decide) (fun c_8 => absurd c_8 (fun h9 => by have h8 := (pk_lLT (b := 0) (by omega) (by omega)).mp h9; omega)) (fun c_8 => ?_)
  refine v_lload_n C dX8_cellOfHand_12 rfl rfl ?_
  refine v_ldc2 C dX8_cellOfHand_13 g_kl_X8_166 ?_
  refine v_lc_ge (tgt := 25) C dX8_cellOfHand_16 dX8_cellOfHand_17 (by decide) (fun c_16 => absurd c_16 (fun h9 => by have h8 := (pk_lLE (a := 400) (by omega) (by omega)).mp h9; omega)) (fun c_16 => ?_)
  refine v_lload_n C dX8_cellOfHand_20 rfl rfl ?_
  refine v_l2i C dX8_cellOfHand_21 ?_
  rw [lN_i]
  refine v_goto (tgt := 27) C dX8_cellOfHand_22 (by decide) ?_
  exact v_iret C hr hlk dX8_cellOfHand_27 (Nat.le_of_ble_eq_true rfl) (Nat.le_of_ble_eq_true rfl) ⟨rfl, rfl⟩

set_option maxHeartbeats 4000000 in
set_option maxRecDepth 100000 in
theorem c_cellOfHand_no (l : Launch) (D : va_G) (B : Nat) (K : Nat → ClassId) (f : St) (q : Nat → Nat) (n na : Nat) (fi : St) (sg : Nat → Sg) (E : Nat → List Ent) (ra : Nat → Nat) (kd : Nat → Int32) (i : Nat) (t x y z : Int32) (h : Nat → Int64) (h0 : f (q 0) = some (.inr (6, [.ref (q 1), .ref (q 2), .ref (q 3), .ref (q 4), .ref (q 5), .ref (q 6), .int (nI n), .int (nI na)]))) (hn40 : n ≤ 40) (hT : RT K sg E ra kd fi n) (hI : Imm fi f) (h1 : f (q 1) = some (.inr (2, [.ref (q 7)]))) (h7 : f (q 7) = some (.inl (K 1, 8, .inr (.inl h)))) (h3 : f (q 3) = some (.inr (3, [.int t, .int x, .int y, .int z]))) (hi : i < n) (m9 : Nat × Ent) (hm : missE sg h (E i) 0 = some m9) : Kc l D B K yX8_cellOfHand cX8_cellOfHand 4 ((some .int)) 44 0 0 [.ref (q 0), .ref (ra i)] f (Qi_ D B (fun r f9 => r = -2 ∧ f9 = plF f (q 3) t 0 (some m9))) := by
  refine v_met [(0, .ref (q 0)), (1, .ref (ra i))] (by decide) (Nat.le_of_ble_eq_true rfl) rfl ?_
  intro p e s m args below meth c C hr hlk hin
  refine v_aload_n C dX8_cellOfHand_0 rfl rfl ?_
  refine v_aload_n C dX8_cellOfHand_1 rfl rfl ?_
  refine v_cl (r_V C (c_placeOfHand l D B K _ q n na fi sg E ra kd i t x y z h h0 hT hn40 hi hI h1 h7 h3) dX8_cellOfHand_2 h0 rfl g_ml_X8_118 g_im_yX8_placeOfHand g_se_X8_yX8_placeOfHand_yX8_placeOfHand g_in_X8 g_cd_yX8_placeOfHand (rn_le (by decide)) (by decide) rfl rfl hdn_yX8_placeOfHand (Nat.le_of_ble_eq_true rfl) ⟨Nat.le_of_ble_eq_true rfl, Nat.le_of_ble_eq_true rfl⟩) (fun r_2 f_2 hp_2 => ?_)
  obtain ⟨rfl, hf9⟩ := hp_2
  rw [hm] at hf9
  refine v_rl (show plR sg h (E i) 0 = -2 by unfold plR; rw [hm]) ?_
  refine v_lstore_n C dX8_cellOfHand_5 rfl (by decide) rfl ?_
  refine v_lload_n C dX8_cellOfHand_6 rfl rfl ?_
  refine v_lconst (v := 0) C dX8_cellOfHand_7 (by decide) ?_
  refine v_lc_lt (tgt := 25) C dX8_cellOfHand_8 dX8_cellOfHand_9 (by decide) (fun c_8 => ?_) (fun c_8 => absurd (by decide) c_8)
  refine v_bipush (v := (-2)) C dX8_cellOfHand_25 (by decide) ?_
  exact v_iret C hr hlk dX8_cellOfHand_27 (Nat.le_of_ble_eq_true rfl) (Nat.le_of_ble_eq_true rfl) ⟨rfl, hf9⟩

theorem upC_in {w len : Nat} (h : w < len) (hl : len ≤ 8) : ¬ upC (nI w) (nI len - 1) = 0 := by
  rw [show (1 : Int32) = nI 1 from rfl, pk_sub (by omega)]
  unfold upC
  rw [if_neg (nI_pos (by omega)), if_neg (nI_nlt (by omega) (by omega))]
  decide
theorem upC_no {x : Int32} {len : Nat} (h1 : 1 ≤ len) (hl : len ≤ 8) (h : x < 0 ∨ nI len ≤ x) : upC x (nI len - 1) = 0 := by
  rw [show (1 : Int32) = nI 1 from rfl, pk_sub (by omega)]
  unfold upC
  rcases h with h | h
  · rw [if_pos h]
  · by_cases h0 : x < 0
    · rw [if_pos h0]
    · rw [if_neg h0, if_pos]
      rw [Int32.lt_iff_toInt_lt, nI_toInt (by omega)]
      rw [Int32.le_iff_toInt_le, nI_toInt (by omega)] at h
      omega
def smS (sg : Nat → Sg) (l : List Ent) (w : Nat) (v : Int64) (c : Nat → Int32) : Nat → Int64
  | 0 => 0
  | k + 1 => if vE sg l k w = v then smS sg l w v c k + (c k).toInt64 else smS sg l w v c k
set_option maxHeartbeats 4000000 in
set_option maxRecDepth 100000 in
theorem c_sum_bad (l : Launch) (D : va_G) (B : Nat) (K : Nat → ClassId) (f : St) (q : Nat → Nat) (n na : Nat) (x : Int32) (h0 : f (q 0) = some (.inr (6, [.ref (q 1), .ref (q 2), .ref (q 3), .ref (q 4), .ref (q 5), .ref (q 6), .int (nI n), .int (nI na)]))) (hna : na ≤ 6) (hx : x < 0 ∨ nI na ≤ x) (w : Int32) (v : Int64) : Kc l D B K yX8_sum cX8_sum 9 ((some .long)) 50 0 0 [.ref (q 0), .int x, .int w, .long v] f (Ql_ D B (fun r f9 => r = -1000000101 ∧ f9 = f)) := by
  refine v_met [(0, .ref (q 0)), (1, .int x), (2, .int w), (3, .long v)] (by decide) (Nat.le_of_ble_eq_true rfl) rfl ?_
  intro p e s m args below meth c C hr hlk hin
  refine v_aload_n C dX8_sum_0 rfl rfl ?_
  refine v_iload_n C dX8_sum_1 rfl rfl ?_
  refine v_cq (r_V C (c_baseOf_bad l D B K _ q n na x h0 hx hna) dX8_sum_2 h0 rfl g_ml_X8_178 g_im_yX8_baseOf g_se_X8_yX8_baseOf_yX8_baseOf g_in_X8 g_cd_yX8_baseOf (rn_le (by decide)) (by decide) rfl rfl hdn_yX8_baseOf (Nat.le_of_ble_eq_true rfl) ⟨Nat.le_of_ble_eq_true rfl, Nat.le_of_ble_eq_true rfl⟩) (fun r_2 f_2 hp_2 => ?_)
  obtain ⟨rfl, rfl⟩ := hp_2
  refine v_rn rfl ?_
  refine v_astoreN C dX8_sum_5 (by decide) rfl ?_
  refine v_aloadN C dX8_sum_7 rfl ?_
  refine v_ifnonnullN C dX8_sum_9 ?_
  refine v_bipush (v := (-101)) C dX8_sum_12 (by decide) ?_
  refine v_cl (r_S C (c_longCode l D B K _ _) dX8_sum_14 g_ml_X8_100 g_st_yX8_longCode g_in_X8 g_cd_yX8_longCode (rn_le (by decide)) (by decide) rfl hdn_yX8_longCode (Nat.le_of_ble_eq_true rfl) ⟨Nat.le_of_ble_eq_true rfl, Nat.le_of_ble_eq_true rfl⟩) (fun r_14 f_14 hp_14 => ?_)
  obtain ⟨rfl, rfl⟩ := hp_14
  exact v_lret C hr hlk dX8_sum_17 (Nat.le_of_ble_eq_true rfl) (Nat.le_of_ble_eq_true rfl) ⟨by decide, rfl⟩

set_option maxHeartbeats 4000000 in
set_option maxRecDepth 100000 in
theorem c_sum_out (l : Launch) (D : va_G) (B : Nat) (K : Nat → ClassId) (f : St) (q : Nat → Nat) (n na : Nat) (gb : Nat → Option Nat) (fi : St) (sg : Nat → Sg) (E : Nat → List Ent) (ra : Nat → Nat) (kd : Nat → Int32) (a9 i : Nat) (w : Int32) (v : Int64) (h0 : f (q 0) = some (.inr (6, [.ref (q 1), .ref (q 2), .ref (q 3), .ref (q 4), .ref (q 5), .ref (q 6), .int (nI n), .int (nI na)]))) (h5 : f (q 5) = some (.inl (K 3, 6, .inr (.inr (.inr (.inr (gb))))))) (hna : na ≤ 6) (hn40 : n ≤ 40) (hT : RT K sg E ra kd fi n) (hI : Imm fi f) (ha9 : a9 < na) (hi : i < n) (hgb : gb a9 = some (ra i)) (hw : upC w (nI (E i).length - 1) = 0) : Kc l D B K yX8_sum cX8_sum 9 ((some .long)) 50 0 0 [.ref (q 0), .int (nI a9), .int w, .long v] f (Ql_ D B (fun r f9 => r = -1000000102 ∧ f9 = f)) := by
  refine v_met [(0, .ref (q 0)), (1, .int (nI a9)), (2, .int w), (3, .long v)] (by decide) (Nat.le_of_ble_eq_true rfl) rfl ?_
  intro p e s m args below meth c C hr hlk hin
  obtain ⟨cii, fsi, hcii, hcelli, hf0i, hf1i, hf2i, hf3i⟩ := RT_hdr (hT.2 i hi).1
  refine v_aload_n C dX8_sum_0 rfl rfl ?_
  refine v_iload_n C dX8_sum_1 rfl rfl ?_
  refine v_cq (r_V C (c_baseOf_ok l D B K _ q n na gb a9 (ra i) h0 h5 ha9 hna hgb) dX8_sum_2 h0 rfl g_ml_X8_178 g_im_yX8_baseOf g_se_X8_yX8_baseOf_yX8_baseOf g_in_X8 g_cd_yX8_baseOf (rn_le (by decide)) (by decide) rfl rfl hdn_yX8_baseOf (Nat.le_of_ble_eq_true rfl) ⟨Nat.le_of_ble_eq_true rfl, Nat.le_of_ble_eq_true rfl⟩) (fun r_2 f_2 hp_2 => ?_)
  obtain ⟨rfl, hf9⟩ := hp_2
  have hf9 := hf9.symm
  subst hf9
  refine v_rq rfl ?_
  refine v_astore C dX8_sum_5 (by decide) rfl ?_
  refine v_aload C dX8_sum_7 rfl ?_
  refine v_ifnonnull (tgt := 18) C dX8_sum_9 (by decide) ?_
  refine v_iload_n C dX8_sum_18 rfl rfl ?_
  refine v_aload C dX8_sum_19 rfl ?_
  refine v_getR C dX8_sum_21 2 (by decide) hcii (hI _ _ hcelli) g_fl_X8_93 hf2i ?_
  refine v_iconst (v := 1) C dX8_sum_24 (by decide) ?_
  refine v_isub C dX8_sum_25 ?_
  refine v_ci (r_S C (c_isUpTo l D B K _ _ _) dX8_sum_26 g_ml_X8_52 g_st_yX8_isUpTo g_in_X8 g_cd_yX8_isUpTo (rn_le (by decide)) (by decide) rfl hdn_yX8_isUpTo (Nat.le_of_ble_eq_true rfl) ⟨Nat.le_of_ble_eq_true rfl, Nat.le_of_ble_eq_true rfl⟩) (fun r_26 f_26 hp_26 => ?_)
  obtain ⟨rfl, rfl⟩ := hp_26
  refine v_if_ne (tgt := 38) C dX8_sum_29 (by decide) (fun c_29 => absurd hw c_29) (fun c_29 => ?_)
  refine v_bipush (v := (-102)) C dX8_sum_32 (by decide) ?_
  refine v_cl (r_S C (c_longCode l D B K _ _) dX8_sum_34 g_ml_X8_100 g_st_yX8_longCode g_in_X8 g_cd_yX8_longCode (rn_le (by decide)) (by decide) rfl hdn_yX8_longCode (Nat.le_of_ble_eq_true rfl) ⟨Nat.le_of_ble_eq_true rfl, Nat.le_of_ble_eq_true rfl⟩) (fun r_34 f_34 hp_34 => ?_)
  obtain ⟨rfl, rfl⟩ := hp_34
  exact v_lret C hr hlk dX8_sum_37 (Nat.le_of_ble_eq_true rfl) (Nat.le_of_ble_eq_true rfl) ⟨by decide, rfl⟩

set_option maxHeartbeats 4000000 in
set_option maxRecDepth 100000 in
theorem L_sum {p : Program} {l : Launch} {e : Env} {s : State} {m : MethodId} {args : Array Value} {below : List Frame} {meth : Method} {c : Code} {D : va_G} {B : Nat} {K : Nat → ClassId} (C : Cx p s m args c cX8_sum 9 yX8_sum.cls D B K) (hr : meth.sig.returnType = (some .long)) (hlk : meth.locks = false) (f : St) (q : Nat → Nat) (n na : Nat) (gb : Nat → Option Nat) (fi : St) (sg : Nat → Sg) (E : Nat → List Ent) (ra : Nat → Nat) (kd : Nat → Int32) (a9 i : Nat) (h0 : f (q 0) = some (.inr (6, [.ref (q 1), .ref (q 2), .ref (q 3), .ref (q 4), .ref (q 5), .ref (q 6), .int (nI n), .int (nI na)]))) (h5 : f (q 5) = some (.inl (K 3, 6, .inr (.inr (.inr (.inr (gb))))))) (hna : na ≤ 6) (hn40 : n ≤ 40) (hT : RT K sg E ra kd fi n) (hI : Imm fi f) (ha9 : a9 < na) (hi : i < n) (hgb : gb a9 = some (ra i)) (hs : Nat → Int64) (cl : Nat → Nat → Int32) (hq : ∀ i j, i < 15 → j < 15 → q i = q j → i = j) (hfq : ∀ j, j < 15 → fi (q j) = none) (h2 : f (q 2) = some (.inr (2, [.ref (q 8)]))) (h8 : f (q 8) = some (.inl (K 1, 8, .inr (.inl hs)))) (h6 : f (q 6) = some (.inl (K 4, 6, .inr (.inr (.inr (.inr (fun i => if i < 6 then some (q (9 + i)) else none))))))) (hrow : ∀ j, j < 6 → f (q (9 + j)) = some (.inl (K 0, 400, .inl (cl j)))) (w : Nat) (v : Int64) (hw : w < (E i).length) (hz : prodE sg (E i) ≤ 400) : ∀ (n9 k : Nat) (gs : Nat → Int64), k ≤ prodE sg (E i) → prodE sg (E i) + 1 ≤ k + n9 → V p l e (RM 50 0 0) s m args below meth c D B 9 (MQ below (Ql_ D B (fun r f9 => r = smS sg (E i) w v (cl a9) (prodE sg (E i)) ∧ ∃ gs : Nat → Int64, f9 = va_up f (q 8) (some (.inl (K 1, 8, .inr (.inl (gs))))))) args s 0 0 (AB B)) 0 0 (va_up f (q 8) (some (.inl (K 1, 8, .inr (.inl (gs)))))) (lof [(0, .ref (q 0)), (1, .int (nI a9)), (2, .int (nI w)), (3, .long v), (5, .ref (ra i)), (6, .long (smS sg (E i) w v (cl a9) k)), (8, .int (nI k))]) 44 [] := by
  obtain ⟨cii, fsi, hcii, hcelli, hf0i, hf1i, hf2i, hf3i⟩ := RT_hdr (hT.2 i hi).1
  have h8l := (hT.2 i hi).2.1
  have nne : ∀ j, j < 15 → j ≠ 8 → q j ≠ q 8 := fun j hj h9 e9 => h9 (hq j 8 hj (by decide) e9)
  have n28 : q 2 ≠ q 8 := nne 2 (by decide) (by decide)
  intro n9
  induction n9 with
  | zero => intro k gs h1 h2; omega
  | succ n9 ih =>
    intro k gs hk hin
    have hI2 : Imm fi (va_up f (q 8) (some (.inl (K 1, 8, .inr (.inl (gs)))))) := hI.up (hfq 8 (by decide))
    have h02 : (va_up f (q 8) (some (.inl (K 1, 8, .inr (.inl (gs)))))) (q 0) = some (.inr (6, [.ref (q 1), .ref (q 2), .ref (q 3), .ref (q 4), .ref (q 5), .ref (q 6), .int (nI n), .int (nI na)])) := by rw [va_up_ne _ _ (nne 0 (by decide) (by decide))]; exact h0
    have h22 : (va_up f (q 8) (some (.inl (K 1, 8, .inr (.inl (gs)))))) (q 2) = some (.inr (2, [.ref (q 8)])) := by rw [va_up_ne _ _ n28]; exact h2
    by_cases hlt : k < prodE sg (E i)
    · refine v_iload C dX8_sum_44 rfl ?_
      refine v_sipush (v := 400) C dX8_sum_46 (by decide) ?_
      refine v_icmp_ge (tgt := 111) C dX8_sum_49 (by decide) (fun c_49 => absurd c_49 (nI_ge (b := 400) (by omega) (by omega))) (fun c_49 => ?_)
      refine v_iload C dX8_sum_52 rfl ?_
      refine v_i2l C dX8_sum_54 ?_
      refine v_aload C dX8_sum_55 rfl ?_
      refine v_getR C dX8_sum_57 3 (by decide) hcii (hI2 _ _ hcelli) g_fl_X8_75 hf3i ?_
      refine v_rl (sat_lt (by omega)) ?_
      rw [nI_l (show k < 2 ^ 31 by omega)]
      refine v_lc_ge (tgt := 111) C dX8_sum_60 dX8_sum_61 (by decide) (fun c_60 => absurd c_60 (fun h9 => by have h10 := (pk_lLE (by omega) (by omega)).mp h9; omega)) (fun c_60 => ?_)
      refine v_aload C dX8_sum_64 rfl ?_
      refine v_aload_n C dX8_sum_66 rfl rfl ?_
      refine v_get C dX8_sum_67 1 h02 rfl in_X8 (by decide) g_fl_X8_16 (fun _ h9 => h9) rfl ?_
      refine v_iconst (v := 0) C dX8_sum_70 (by decide) ?_
      refine v_iload C dX8_sum_71 rfl ?_
      refine v_i2l C dX8_sum_73 ?_
      rw [nI_l (show k < 2 ^ 31 by omega)]
      refine v_fill (i := i) (a := 0) (k9 := k) C dX8_sum_74 (hT.2 i hi).1 (fill_all l D B K hT i hi) hI2 (hfq 8 (by decide)) h22 n28 (va_up_self _ _ _) (by have h9 := (hT.2 i hi).2.1; omega) hlt (by omega) g_ml_X8_135 (rn_le (by omega)) rfl (Nat.le_of_ble_eq_true rfl) ⟨Nat.zero_le _, Nat.zero_le _⟩ ?_
      rw [bx_uu]
      have h03 : (va_up f (q 8) (some (.inl (K 1, 8, .inr (.inl (filG sg (E i) 0 k gs)))))) (q 0) = some (.inr (6, [.ref (q 1), .ref (q 2), .ref (q 3), .ref (q 4), .ref (q 5), .ref (q 6), .int (nI n), .int (nI na)])) := by rw [va_up_ne _ _ (nne 0 (by decide) (by decide))]; exact h0
      have h23 : (va_up f (q 8) (some (.inl (K 1, 8, .inr (.inl (filG sg (E i) 0 k gs)))))) (q 2) = some (.inr (2, [.ref (q 8)])) := by rw [va_up_ne _ _ n28]; exact h2
      have h63 : (va_up f (q 8) (some (.inl (K 1, 8, .inr (.inl (filG sg (E i) 0 k gs)))))) (q 6) = some (.inl (K 4, 6, .inr (.inr (.inr (.inr (fun i => if i < 6 then some (q (9 + i)) else none)))))) := by rw [va_up_ne _ _ (nne 6 (by decide) (by decide))]; exact h6
      have hrow3 : (va_up f (q 8) (some (.inl (K 1, 8, .inr (.inl (filG sg (E i) 0 k gs)))))) (q (9 + a9)) = some (.inl (K 0, 400, .inl (cl a9))) := by rw [va_up_ne _ _ (nne (9 + a9) (by omega) (by omega))]; exact hrow a9 (by omega)
      refine v_aload_n C dX8_sum_77 rfl rfl ?_
      refine v_get C dX8_sum_78 1 h03 rfl in_X8 (by decide) g_fl_X8_16 (fun _ h9 => h9) rfl ?_
      refine v_iload_n C dX8_sum_81 rfl rfl ?_
      refine v_cl (r_V C (c_look l D B K _ (q 2) _ (nI w) (q 8) h23 (va_up_self _ _ _)) dX8_sum_82 h23 rfl g_ml_X8_111 g_im_yX2_look g_se_X2_yX2_look_yX2_look g_in_X2 g_cd_yX2_look (rn_le (by decide)) (by decide) rfl rfl hdn_yX2_look (Nat.le_of_ble_eq_true rfl) ⟨Nat.le_of_ble_eq_true rfl, Nat.le_of_ble_eq_true rfl⟩) (fun r_82 f_82 hp_82 => ?_)
      obtain ⟨rfl, hf9⟩ := hp_82
      have hf9 := hf9.symm
      subst hf9
      refine v_rl (show lookC (filG sg (E i) 0 k gs) (nI w) = vE sg (E i) k w by rw [look_eq (by omega)]; unfold filG; rw [if_pos ⟨Nat.zero_le _, by omega⟩, Nat.sub_zero]) ?_
      refine v_lload_n C dX8_sum_85 rfl rfl ?_
      by_cases hv : vE sg (E i) k w = v
      · refine v_lc_ne (tgt := 105) C dX8_sum_86 dX8_sum_87 (by decide) (fun c_86 => absurd hv c_86) (fun c_86 => ?_)
        refine v_lload C dX8_sum_90 rfl ?_
        refine v_aload_n C dX8_sum_92 rfl rfl ?_
        refine v_get C dX8_sum_93 5 h03 rfl in_X8 (by decide) g_fl_X8_37 (fun _ h9 => h9) rfl ?_
        refine v_iload_n C dX8_sum_96 rfl rfl ?_
        refine v_alda C dX8_sum_97 h63 (vp_in_nI (by omega) (by omega)) ?_
        refine v_rq (show (fun i => if i < 6 then some (q (9 + i)) else none) (nI a9).toNatClampNeg = some (q (9 + a9)) by rw [nI_clamp (by omega)]; exact if_pos (by omega)) ?_
        refine v_iload C dX8_sum_98 rfl ?_
        refine v_iald C dX8_sum_100 hrow3 (vp_in_nI (by omega) (by omega)) ?_
        rw [nI_clamp (show k < 2 ^ 31 by omega)]
        refine v_i2l C dX8_sum_101 ?_
        refine v_ladd C dX8_sum_102 ?_
        refine v_lstore C dX8_sum_103 (by decide) rfl ?_
        refine v_iinc (y := 1) C dX8_sum_105 rfl (by decide) (by decide) rfl ?_
        refine v_goto (tgt := 44) C dX8_sum_108 (by decide) ?_
        refine v_loc [(0, .ref (q 0)), (1, .int (nI a9)), (2, .int (nI w)), (3, .long v), (5, .ref (ra i)), (6, .long (smS sg (E i) w v (cl a9) (k + 1))), (8, .int (nI (k + 1)))] (lsub_c rfl (lsub_c rfl (lsub_c rfl (lsub_c rfl (lsub_c rfl (lsub_c (by rw [show smS sg (E i) w v (cl a9) (k + 1) = smS sg (E i) w v (cl a9) k + (cl a9 k).toInt64 from if_pos hv]; rfl) (lsub_c (by rw [nI_succ]; rfl) lsub_n))))))) ?_
        exact ih (k + 1) _ hlt (by omega)
      · refine v_lc_ne (tgt := 105) C dX8_sum_86 dX8_sum_87 (by decide) (fun c_86 => ?_) (fun c_86 => absurd c_86 hv)
        refine v_iinc (y := 1) C dX8_sum_105 rfl (by decide) (by decide) rfl ?_
        refine v_goto (tgt := 44) C dX8_sum_108 (by decide) ?_
        refine v_loc [(0, .ref (q 0)), (1, .int (nI a9)), (2, .int (nI w)), (3, .long v), (5, .ref (ra i)), (6, .long (smS sg (E i) w v (cl a9) (k + 1))), (8, .int (nI (k + 1)))] (lsub_c rfl (lsub_c rfl (lsub_c rfl (lsub_c rfl (lsub_c rfl (lsub_c (by rw [show smS sg (E i) w v (cl a9) (k + 1) = smS sg (E i) w v (cl a9) k from if_neg hv]; rfl) (lsub_c (by rw [nI_succ]; rfl) lsub_n))))))) ?_
        exact ih (k + 1) _ hlt (by omega)
    · by_cases h400 : k = 400
      · refine v_iload C dX8_sum_44 rfl ?_
        refine v_sipush (v := 400) C dX8_sum_46 (by decide) ?_
        refine v_icmp_ge (tgt := 111) C dX8_sum_49 (by decide) (fun c_49 => ?_) (fun c_49 => absurd (nI_le (a := 400) (by omega) (by omega)) c_49)
        refine v_lload C dX8_sum_111 rfl ?_
        exact v_lret C hr hlk dX8_sum_113 (Nat.le_refl _) (Nat.le_refl _) ⟨by rw [show k = prodE sg (E i) by omega], gs, rfl⟩
      · refine v_iload C dX8_sum_44 rfl ?_
        refine v_sipush (v := 400) C dX8_sum_46 (by decide) ?_
        refine v_icmp_ge (tgt := 111) C dX8_sum_49 (by decide) (fun c_49 => absurd c_49 (nI_ge (b := 400) (by omega) (by omega))) (fun c_49 => ?_)
        refine v_iload C dX8_sum_52 rfl ?_
        refine v_i2l C dX8_sum_54 ?_
        refine v_aload C dX8_sum_55 rfl ?_
        refine v_getR C dX8_sum_57 3 (by decide) hcii (hI2 _ _ hcelli) g_fl_X8_75 hf3i ?_
        refine v_rl (sat_lt (by omega)) ?_
        rw [nI_l (show k < 2 ^ 31 by omega)]
        refine v_lc_ge (tgt := 111) C dX8_sum_60 dX8_sum_61 (by decide) (fun c_60 => ?_) (fun c_60 => absurd ((pk_lLE (by omega) (by omega)).mpr (by omega)) c_60)
        refine v_lload C dX8_sum_111 rfl ?_
        exact v_lret C hr hlk dX8_sum_113 (Nat.le_refl _) (Nat.le_refl _) ⟨by rw [show k = prodE sg (E i) by omega], gs, rfl⟩

set_option maxHeartbeats 4000000 in
set_option maxRecDepth 100000 in
theorem c_sum_ok (l : Launch) (D : va_G) (B : Nat) (K : Nat → ClassId) (f : St) (q : Nat → Nat) (n na : Nat) (gb : Nat → Option Nat) (fi : St) (sg : Nat → Sg) (E : Nat → List Ent) (ra : Nat → Nat) (kd : Nat → Int32) (a9 i : Nat) (h0 : f (q 0) = some (.inr (6, [.ref (q 1), .ref (q 2), .ref (q 3), .ref (q 4), .ref (q 5), .ref (q 6), .int (nI n), .int (nI na)]))) (h5 : f (q 5) = some (.inl (K 3, 6, .inr (.inr (.inr (.inr (gb))))))) (hna : na ≤ 6) (hn40 : n ≤ 40) (hT : RT K sg E ra kd fi n) (hI : Imm fi f) (ha9 : a9 < na) (hi : i < n) (hgb : gb a9 = some (ra i)) (hs : Nat → Int64) (cl : Nat → Nat → Int32) (hq : ∀ i j, i < 15 → j < 15 → q i = q j → i = j) (hfq : ∀ j, j < 15 → fi (q j) = none) (h2 : f (q 2) = some (.inr (2, [.ref (q 8)]))) (h8 : f (q 8) = some (.inl (K 1, 8, .inr (.inl hs)))) (h6 : f (q 6) = some (.inl (K 4, 6, .inr (.inr (.inr (.inr (fun i => if i < 6 then some (q (9 + i)) else none))))))) (hrow : ∀ j, j < 6 → f (q (9 + j)) = some (.inl (K 0, 400, .inl (cl j)))) (w : Nat) (v : Int64) (hw : w < (E i).length) (hz : prodE sg (E i) ≤ 400) : Kc l D B K yX8_sum cX8_sum 9 ((some .long)) 50 0 0 [.ref (q 0), .int (nI a9), .int (nI w), .long v] f (Ql_ D B (fun r f9 => r = smS sg (E i) w v (cl a9) (prodE sg (E i)) ∧ ∃ gs : Nat → Int64, f9 = va_up f (q 8) (some (.inl (K 1, 8, .inr (.inl (gs))))))) := by
  refine v_met [(0, .ref (q 0)), (1, .int (nI a9)), (2, .int (nI w)), (3, .long v)] (by decide) (Nat.le_of_ble_eq_true rfl) rfl ?_
  intro p e s m args below meth c C hr hlk hin
  obtain ⟨cii, fsi, hcii, hcelli, hf0i, hf1i, hf2i, hf3i⟩ := RT_hdr (hT.2 i hi).1
  refine v_aload_n C dX8_sum_0 rfl rfl ?_
  refine v_iload_n C dX8_sum_1 rfl rfl ?_
  refine v_cq (r_V C (c_baseOf_ok l D B K _ q n na gb a9 (ra i) h0 h5 ha9 hna hgb) dX8_sum_2 h0 rfl g_ml_X8_178 g_im_yX8_baseOf g_se_X8_yX8_baseOf_yX8_baseOf g_in_X8 g_cd_yX8_baseOf (rn_le (by decide)) (by decide) rfl rfl hdn_yX8_baseOf (Nat.le_of_ble_eq_true rfl) ⟨Nat.le_of_ble_eq_true rfl, Nat.le_of_ble_eq_true rfl⟩) (fun r_2 f_2 hp_2 => ?_)
  obtain ⟨rfl, hf9⟩ := hp_2
  have hf9 := hf9.symm
  subst hf9
  refine v_rq rfl ?_
  refine v_astore C dX8_sum_5 (by decide) rfl ?_
  refine v_aload C dX8_sum_7 rfl ?_
  refine v_ifnonnull (tgt := 18) C dX8_sum_9 (by decide) ?_
  refine v_iload_n C dX8_sum_18 rfl rfl ?_
  refine v_aload C dX8_sum_19 rfl ?_
  refine v_getR C dX8_sum_21 2 (by decide) hcii (hI _ _ hcelli) g_fl_X8_93 hf2i ?_
  refine v_iconst (v := 1) C dX8_sum_24 (by decide) ?_
  refine v_isub C dX8_sum_25 ?_
  refine v_ci (r_S C (c_isUpTo l D B K _ _ _) dX8_sum_26 g_ml_X8_52 g_st_yX8_isUpTo g_in_X8 g_cd_yX8_isUpTo (rn_le (by decide)) (by decide) rfl hdn_yX8_isUpTo (Nat.le_of_ble_eq_true rfl) ⟨Nat.le_of_ble_eq_true rfl, Nat.le_of_ble_eq_true rfl⟩) (fun r_26 f_26 hp_26 => ?_)
  obtain ⟨rfl, hf9⟩ := hp_26
  have hf9 := hf9.symm
  subst hf9
  refine v_if_ne (tgt := 38) C dX8_sum_29 (by decide) (fun c_29 => ?_) (fun c_29 => absurd c_29 (upC_in hw (hT.2 i hi).2.1))
  refine v_lconst (v := 0) C dX8_sum_38 (by decide) ?_
  refine v_lstore C dX8_sum_39 (by decide) rfl ?_
  refine v_iconst (v := 0) C dX8_sum_41 (by decide) ?_
  refine v_istore C dX8_sum_42 (by decide) rfl ?_
  refine v_loc [(0, .ref (q 0)), (1, .int (nI a9)), (2, .int (nI w)), (3, .long v), (5, .ref (ra i)), (6, .long (smS sg (E i) w v (cl a9) 0)), (8, .int (nI 0))] (lsub_c rfl (lsub_c rfl (lsub_c rfl (lsub_c rfl (lsub_c rfl (lsub_c rfl (lsub_c rfl lsub_n))))))) ?_
  have hL := L_sum (l := l) (e := e) (below := below) C hr hlk f q n na gb fi sg E ra kd a9 i h0 h5 hna hn40 hT hI ha9 hi hgb hs cl hq hfq h2 h8 h6 hrow w v hw hz (prodE sg (E i) + 1) 0 hs (Nat.zero_le _) (by omega)
  rw [va_up_id h8] at hL
  exact hL

