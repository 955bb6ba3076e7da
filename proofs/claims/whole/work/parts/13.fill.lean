/-! loops: Arrays.fill, Hand.drop -/
theorem lsub_n {lv : Lv} : lsub lv [] := trivial
theorem lsub_c {lv : Lv} {i : Nat} {v : Value} {t : List (Nat × Value)} (h : lk lv i = some v) (ht : lsub lv t) : lsub lv ((i, v) :: t) := ⟨h, ht⟩
theorem nI_lt_of {i n : Nat} (hi : i ≤ n) (hn : n < 2 ^ 31) (h : ¬ nI n ≤ nI i) : i < n := by
  rcases Nat.lt_or_ge i n with q | q
  · exact q
  · exact absurd (by rw [nI_leI hn (by omega)]; exact q) h
set_option maxHeartbeats 4000000 in
set_option maxRecDepth 100000 in
theorem L_fillJ {p : Program} {l : Launch} {e : Env} {R : Room} {s : State} {m : MethodId} {args : Array Value} {below : List Frame} {meth : Method} {c : Code} {D : va_G} {B : Nat} {K : Nat → ClassId} (C : Cx p s m args c cJ7_fill_d0a16 5 yJ7_fill_d0a16.cls D B K) (hr : meth.sig.returnType = none) (hlk : meth.locks = false) (f : St) (a0 N : Nat) (v : Int64) (hN : N < 2 ^ 31) : ∀ (n i : Nat) (g : Nat → Int64), i ≤ N → N + 1 ≤ i + n → (∀ j, j < i → g j = v) → V p l e R s m args below meth c D B 5 (MQ below (Qv_ D B (fun f9 => ∃ g9 : Nat → Int64, (∀ j, j < N → g9 j = v) ∧ f9 = va_up f a0 (some (.inl (K 1, N, .inr (.inl g9)))))) args s 0 0 (AB B)) 0 0 (va_up f a0 (some (.inl (K 1, N, .inr (.inl g))))) (lof [(0, .ref a0), (1, .long v), (3, .int (nI i)), (4, .int (nI N))]) 6 [] := by
  intro n
  induction n with
  | zero => intro i g h1 h2; omega
  | succ n ih =>
    intro i g hi hin hg
    refine v_iload_n C dJ7_fill_d0a16_6 rfl rfl ?_
    refine v_iload C dJ7_fill_d0a16_7 rfl ?_
    refine v_icmp_ge (tgt := 22) C dJ7_fill_d0a16_9 (by decide) (fun c_9 => ?_) (fun c_9 => ?_)
    · exact v_vret C hr hlk dJ7_fill_d0a16_22 (Nat.le_refl _) (Nat.le_refl _) ⟨g, fun j hj => hg j (by have h9 := (nI_leI hN (by omega)).mp c_9; omega), rfl⟩
    · refine v_aload_n C dJ7_fill_d0a16_12 rfl rfl ?_
      refine v_iload_n C dJ7_fill_d0a16_13 rfl rfl ?_
      refine v_lload_n C dJ7_fill_d0a16_14 rfl rfl ?_
      refine v_last C dJ7_fill_d0a16_15 (va_up_self _ _ _) (vp_in_nI (nI_lt_of hi hN c_9) hN) ?_
      refine v_iinc (y := 1) C dJ7_fill_d0a16_16 rfl (by decide) (by decide) rfl ?_
      refine v_goto (tgt := 6) C dJ7_fill_d0a16_19 (by decide) ?_
      refine v_loc [(0, .ref a0), (1, .long v), (3, .int (nI (i + 1))), (4, .int (nI N))] (lsub_c rfl (lsub_c rfl (lsub_c (by rw [nI_succ]; rfl) (lsub_c rfl lsub_n)))) ?_
      rw [bx_uu]
      refine ih (i + 1) _ (nI_lt_of hi hN c_9) (by omega) (fun j hj => ?_)
      by_cases e9 : j = i
      · subst e9; simp [vp_updL, nI_clamp (show j < 2 ^ 31 by omega)]
      · rw [pk_uLn (by rw [nI_clamp (show i < 2 ^ 31 by omega)]; exact e9)]; exact hg j (by omega)
set_option maxHeartbeats 4000000 in
set_option maxRecDepth 100000 in
theorem c_fillJ (l : Launch) (D : va_G) (B : Nat) (K : Nat → ClassId) (f : St) (a0 N : Nat) (v : Int64) (g : Nat → Int64) (hN : N < 2 ^ 31) (h1 : f a0 = some (.inl (K 1, N, .inr (.inl g)))) : Kc l D B K yJ7_fill_d0a16 cJ7_fill_d0a16 5 none 0 0 0 [.ref a0, .long v] f (Qv_ D B (fun f9 => ∃ g9 : Nat → Int64, (∀ j, j < N → g9 j = v) ∧ f9 = va_up f a0 (some (.inl (K 1, N, .inr (.inl g9)))))) := by
  refine v_met [(0, .ref a0), (1, .long v)] (by decide) (Nat.le_of_ble_eq_true rfl) rfl ?_
  intro p e s m args below meth c C hr hlk hin
  refine v_iconst (v := 0) C dJ7_fill_d0a16_0 (by decide) ?_
  refine v_istore_n C dJ7_fill_d0a16_1 rfl (by decide) rfl ?_
  refine v_aload_n C dJ7_fill_d0a16_2 rfl rfl ?_
  refine v_alen C dJ7_fill_d0a16_3 1 h1 rfl rfl ?_
  refine v_istore C dJ7_fill_d0a16_4 (by decide) rfl ?_
  refine v_loc [(0, .ref a0), (1, .long v), (3, .int (nI 0)), (4, .int (nI N))] (lsub_c rfl (lsub_c rfl (lsub_c rfl (lsub_c rfl lsub_n)))) ?_
  have hL := L_fillJ C hr hlk f a0 N v hN (N + 1) 0 g (Nat.zero_le _) (by omega) (fun j hj => absurd hj (Nat.not_lt_zero _)) (R := RM 0 0 0) (l := l) (e := e) (below := below)
  rw [va_up_id h1] at hL
  exact hL

set_option maxHeartbeats 4000000 in
set_option maxRecDepth 100000 in
theorem L_fillI {p : Program} {l : Launch} {e : Env} {R : Room} {s : State} {m : MethodId} {args : Array Value} {below : List Frame} {meth : Method} {c : Code} {D : va_G} {B : Nat} {K : Nat → ClassId} (C : Cx p s m args c cJ7_fill_53178 4 yJ7_fill_53178.cls D B K) (hr : meth.sig.returnType = none) (hlk : meth.locks = false) (f : St) (a0 N : Nat) (v : Int32) (hN : N < 2 ^ 31) : ∀ (n i : Nat) (g : Nat → Int32), i ≤ N → N + 1 ≤ i + n → (∀ j, j < i → g j = v) → V p l e R s m args below meth c D B 4 (MQ below (Qv_ D B (fun f9 => ∃ g9 : Nat → Int32, (∀ j, j < N → g9 j = v) ∧ f9 = va_up f a0 (some (.inl (K 0, N, .inl g9))))) args s 0 0 (AB B)) 0 0 (va_up f a0 (some (.inl (K 0, N, .inl g)))) (lof [(0, .ref a0), (1, .int v), (2, .int (nI i)), (3, .int (nI N))]) 5 [] := by
  intro n
  induction n with
  | zero => intro i g h1 h2; omega
  | succ n ih =>
    intro i g hi hin hg
    refine v_iload_n C dJ7_fill_53178_5 rfl rfl ?_
    refine v_iload_n C dJ7_fill_53178_6 rfl rfl ?_
    refine v_icmp_ge (tgt := 20) C dJ7_fill_53178_7 (by decide) (fun c_7 => ?_) (fun c_7 => ?_)
    · exact v_vret C hr hlk dJ7_fill_53178_20 (Nat.le_refl _) (Nat.le_refl _) ⟨g, fun j hj => hg j (by have h9 := (nI_leI hN (by omega)).mp c_7; omega), rfl⟩
    · refine v_aload_n C dJ7_fill_53178_10 rfl rfl ?_
      refine v_iload_n C dJ7_fill_53178_11 rfl rfl ?_
      refine v_iload_n C dJ7_fill_53178_12 rfl rfl ?_
      refine v_iast C dJ7_fill_53178_13 (va_up_self _ _ _) (vp_in_nI (nI_lt_of hi hN c_7) hN) ?_
      refine v_iinc (y := 1) C dJ7_fill_53178_14 rfl (by decide) (by decide) rfl ?_
      refine v_goto (tgt := 5) C dJ7_fill_53178_17 (by decide) ?_
      refine v_loc [(0, .ref a0), (1, .int v), (2, .int (nI (i + 1))), (3, .int (nI N))] (lsub_c rfl (lsub_c rfl (lsub_c (by rw [nI_succ]; rfl) (lsub_c rfl lsub_n)))) ?_
      rw [bx_uu]
      refine ih (i + 1) _ (nI_lt_of hi hN c_7) (by omega) (fun j hj => ?_)
      by_cases e9 : j = i
      · subst e9; simp [upd, nI_clamp (show j < 2 ^ 31 by omega)]
      · rw [pk_un (by rw [nI_clamp (show i < 2 ^ 31 by omega)]; exact e9)]; exact hg j (by omega)
set_option maxHeartbeats 4000000 in
set_option maxRecDepth 100000 in
theorem c_fillI (l : Launch) (D : va_G) (B : Nat) (K : Nat → ClassId) (f : St) (a0 N : Nat) (v : Int32) (g : Nat → Int32) (hN : N < 2 ^ 31) (h1 : f a0 = some (.inl (K 0, N, .inl g))) : Kc l D B K yJ7_fill_53178 cJ7_fill_53178 4 none 0 0 0 [.ref a0, .int v] f (Qv_ D B (fun f9 => ∃ g9 : Nat → Int32, (∀ j, j < N → g9 j = v) ∧ f9 = va_up f a0 (some (.inl (K 0, N, .inl g9))))) := by
  refine v_met [(0, .ref a0), (1, .int v)] (by decide) (Nat.le_of_ble_eq_true rfl) rfl ?_
  intro p e s m args below meth c C hr hlk hin
  refine v_iconst (v := 0) C dJ7_fill_53178_0 (by decide) ?_
  refine v_istore_n C dJ7_fill_53178_1 rfl (by decide) rfl ?_
  refine v_aload_n C dJ7_fill_53178_2 rfl rfl ?_
  refine v_alen C dJ7_fill_53178_3 0 h1 rfl rfl ?_
  refine v_istore_n C dJ7_fill_53178_4 rfl (by decide) rfl ?_
  refine v_loc [(0, .ref a0), (1, .int v), (2, .int (nI 0)), (3, .int (nI N))] (lsub_c rfl (lsub_c rfl (lsub_c rfl (lsub_c rfl lsub_n)))) ?_
  have hL := L_fillI C hr hlk f a0 N v hN (N + 1) 0 g (Nat.zero_le _) (by omega) (fun j hj => absurd hj (Nat.not_lt_zero _)) (R := RM 0 0 0) (l := l) (e := e) (below := below)
  rw [va_up_id h1] at hL
  exact hL

set_option maxHeartbeats 4000000 in
set_option maxRecDepth 100000 in
theorem c_drop (l : Launch) (D : va_G) (B : Nat) (K : Nat → ClassId) (f : St) (a0 ha : Nat) (g : Nat → Int64) (h0 : f a0 = some (.inr (2, [.ref ha]))) (h1 : f ha = some (.inl (K 1, 8, .inr (.inl g)))) : Kc l D B K yX2_drop cX2_drop 1 none 1 0 0 [.ref a0] f (Qv_ D B (fun f9 => ∃ g9 : Nat → Int64, (∀ j, j < 8 → g9 j = 0) ∧ f9 = va_up f ha (some (.inl (K 1, 8, .inr (.inl g9)))))) := by
  refine v_met [(0, .ref a0)] (by decide) (Nat.le_of_ble_eq_true rfl) rfl ?_
  intro p e s m args below meth c C hr hlk hin
  refine v_aload_n C dX2_drop_0 rfl rfl ?_
  refine v_get C dX2_drop_1 0 h0 rfl in_X2 (by decide) g_fl_X2_9 (fun _ h9 => h9) rfl ?_
  refine v_lconst (v := 0) C dX2_drop_4 (by decide) ?_
  refine v_cv (r_S C (c_fillJ l D B K _ ha 8 0 g (by decide) h1) dX2_drop_5 g_ml_X2_15 g_st_yJ7_fill_d0a16 g_in_J7 g_cd_yJ7_fill_d0a16 (rn_le (by decide)) (by decide) rfl hdn_yJ7_fill_d0a16 (Nat.le_of_ble_eq_true rfl) ⟨Nat.le_of_ble_eq_true rfl, Nat.le_of_ble_eq_true rfl⟩) (fun f_5 hp_5 => ?_)
  exact v_vret C hr hlk dX2_drop_8 (Nat.le_refl _) (Nat.le_refl _) hp_5

