/-! the reference: arrays, sums, counts, clear -/
set_option maxHeartbeats 4000000 in
set_option maxRecDepth 100000 in
theorem m_array_bad (l : Launch) (D : va_G) (B : Nat) (K : Nat → ClassId) (f : St) (r : Nat → Nat) (f0 : St) (A : Nat → Nat → Int32) (L : Nat → Nat → Int64) (I : Nat → Int32) (n : Nat) (hM : MC K r f0 f A L I) (hI0 : I 0 = nI n) (hn40 : n ≤ 40) (x : Int32) (hx : x < 0 ∨ nI n ≤ x) : Kc l D B K yX9_array cX9_array 3 ((some .int)) 4 0 0 [.ref (r 0), .int x] f (Qi_ D B (fun x f9 => x = -101 ∧ MC K r f0 f9 A L (up1 I 21 0))) := by
  refine v_met [(0, .ref (r 0)), (1, .int x)] (by decide) (Nat.le_of_ble_eq_true rfl) rfl ?_
  intro p e s m args below meth c C hr hlk hin
  refine v_aload_n C dX9_array_0 rfl rfl ?_
  refine v_iconst (v := 0) C dX9_array_1 (by decide) ?_
  refine m_put C hM dX9_array_2 21 (by decide) g_fl_X9_65 (fun f hM => ?_)
  refine v_aload_n C dX9_array_5 rfl rfl ?_
  refine v_iload_n C dX9_array_6 rfl rfl ?_
  refine v_ci (r_V C (m_noRange_bad l D B K _ r f0 A L (up1 I 21 0) n hM hI0 hn40 x hx) dX9_array_7 hM.1 rfl g_ml_X9_101 g_im_yX9_noRange g_se_X9_yX9_noRange_yX9_noRange g_in_X9 g_cd_yX9_noRange (rn_le (by decide)) (by decide) rfl rfl hdn_yX9_noRange (Nat.le_of_ble_eq_true rfl) ⟨Nat.le_of_ble_eq_true rfl, Nat.le_of_ble_eq_true rfl⟩) (fun r_7 f_7 hp_7 => ?_)
  obtain ⟨rfl, hf9⟩ := hp_7
  have hf9 := hf9.symm
  subst hf9
  refine v_if_eq (tgt := 16) C dX9_array_10 (by decide) (fun c_10 => absurd c_10 (by decide)) (fun _ => ?_)
  refine v_bipush (v := (-101)) C dX9_array_13 (by decide) ?_
  exact v_iret C hr hlk dX9_array_15 (Nat.le_refl _) (Nat.le_refl _) ⟨rfl, hM⟩

set_option maxHeartbeats 4000000 in
set_option maxRecDepth 100000 in
theorem m_array_room (l : Launch) (D : va_G) (B : Nat) (K : Nat → ClassId) (f : St) (r : Nat → Nat) (f0 : St) (A : Nat → Nat → Int32) (L : Nat → Nat → Int64) (I : Nat → Int32) (n : Nat) (hM : MC K r f0 f A L I) (hI0 : I 0 = nI n) (hn40 : n ≤ 40) (i : Nat) (hi : i < n) (P : Nat) (hz : L 4 i = sat P) (na : Nat) (hI18 : I 18 = nI na) (hna : na ≤ 6) (hn6 : na = 6) : Kc l D B K yX9_array cX9_array 3 ((some .int)) 4 0 0 [.ref (r 0), .int (nI i)] f (Qi_ D B (fun x f9 => x = -104 ∧ MC K r f0 f9 A L (up1 I 21 0))) := by
  refine v_met [(0, .ref (r 0)), (1, .int (nI i))] (by decide) (Nat.le_of_ble_eq_true rfl) rfl ?_
  intro p e s m args below meth c C hr hlk hin
  refine v_aload_n C dX9_array_0 rfl rfl ?_
  refine v_iconst (v := 0) C dX9_array_1 (by decide) ?_
  refine m_put C hM dX9_array_2 21 (by decide) g_fl_X9_65 (fun f hM => ?_)
  refine v_aload_n C dX9_array_5 rfl rfl ?_
  refine v_iload_n C dX9_array_6 rfl rfl ?_
  refine v_ci (r_V C (m_noRange_ok l D B K _ r f0 A L (up1 I 21 0) n hM hI0 hn40 i hi) dX9_array_7 hM.1 rfl g_ml_X9_101 g_im_yX9_noRange g_se_X9_yX9_noRange_yX9_noRange g_in_X9 g_cd_yX9_noRange (rn_le (by decide)) (by decide) rfl rfl hdn_yX9_noRange (Nat.le_of_ble_eq_true rfl) ⟨Nat.le_of_ble_eq_true rfl, Nat.le_of_ble_eq_true rfl⟩) (fun r_7 f_7 hp_7 => ?_)
  obtain ⟨rfl, hf9⟩ := hp_7
  have hf9 := hf9.symm
  subst hf9
  refine v_if_eq (tgt := 16) C dX9_array_10 (by decide) (fun _ => ?_) (fun c_10 => absurd c_10 (by decide))
  refine v_aload_n C dX9_array_16 rfl rfl ?_
  refine v_get C dX9_array_17 18 hM.1 rfl in_X9 (by decide) g_fl_X9_62 (fun _ h9 => h9) rfl ?_
  refine v_ri (show I 18 = 6 by rw [hI18, hn6]; rfl) ?_
  refine v_bipush (v := 6) C dX9_array_20 (by decide) ?_
  refine v_icmp_ne (tgt := 28) C dX9_array_22 (by decide) (fun c_22 => absurd rfl c_22) (fun c_22 => ?_)
  refine v_bipush (v := (-104)) C dX9_array_25 (by decide) ?_
  exact v_iret C hr hlk dX9_array_27 (Nat.le_refl _) (Nat.le_refl _) ⟨rfl, hM⟩

set_option maxHeartbeats 4000000 in
set_option maxRecDepth 100000 in
theorem m_array_many (l : Launch) (D : va_G) (B : Nat) (K : Nat → ClassId) (f : St) (r : Nat → Nat) (f0 : St) (A : Nat → Nat → Int32) (L : Nat → Nat → Int64) (I : Nat → Int32) (n : Nat) (hM : MC K r f0 f A L I) (hI0 : I 0 = nI n) (hn40 : n ≤ 40) (i : Nat) (hi : i < n) (P : Nat) (hz : L 4 i = sat P) (na : Nat) (hI18 : I 18 = nI na) (hna : na ≤ 6) (hn6 : na < 6) (hb : 9223372036854775808 ≤ P) : Kc l D B K yX9_array cX9_array 3 ((some .int)) 4 0 0 [.ref (r 0), .int (nI i)] f (Qi_ D B (fun x f9 => MC K r f0 f9 A L (up1 (up1 I 21 0) 21 1))) := by
  refine v_met [(0, .ref (r 0)), (1, .int (nI i))] (by decide) (Nat.le_of_ble_eq_true rfl) rfl ?_
  intro p e s m args below meth c C hr hlk hin
  refine v_aload_n C dX9_array_0 rfl rfl ?_
  refine v_iconst (v := 0) C dX9_array_1 (by decide) ?_
  refine m_put C hM dX9_array_2 21 (by decide) g_fl_X9_65 (fun f hM => ?_)
  refine v_aload_n C dX9_array_5 rfl rfl ?_
  refine v_iload_n C dX9_array_6 rfl rfl ?_
  refine v_ci (r_V C (m_noRange_ok l D B K _ r f0 A L (up1 I 21 0) n hM hI0 hn40 i hi) dX9_array_7 hM.1 rfl g_ml_X9_101 g_im_yX9_noRange g_se_X9_yX9_noRange_yX9_noRange g_in_X9 g_cd_yX9_noRange (rn_le (by decide)) (by decide) rfl rfl hdn_yX9_noRange (Nat.le_of_ble_eq_true rfl) ⟨Nat.le_of_ble_eq_true rfl, Nat.le_of_ble_eq_true rfl⟩) (fun r_7 f_7 hp_7 => ?_)
  obtain ⟨rfl, hf9⟩ := hp_7
  have hf9 := hf9.symm
  subst hf9
  refine v_if_eq (tgt := 16) C dX9_array_10 (by decide) (fun _ => ?_) (fun c_10 => absurd c_10 (by decide))
  refine v_aload_n C dX9_array_16 rfl rfl ?_
  refine v_get C dX9_array_17 18 hM.1 rfl in_X9 (by decide) g_fl_X9_62 (fun _ h9 => h9) rfl ?_
  refine v_ri hI18 ?_
  refine v_bipush (v := 6) C dX9_array_20 (by decide) ?_
  refine v_icmp_ne (tgt := 28) C dX9_array_22 (by decide) (fun c_22 => ?_) (fun c_22 => absurd c_22 (fun h9 => by have h8 := (nI_eq (b := 6) (by omega) (by omega)).mp h9; omega))
  refine v_aload_n C dX9_array_28 rfl rfl ?_
  refine v_aload_n C dX9_array_29 rfl rfl ?_
  refine v_get C dX9_array_30 4 hM.1 rfl in_X9 (by decide) g_fl_X9_19 (fun _ h9 => h9) rfl ?_
  refine v_iload_n C dX9_array_33 rfl rfl ?_
  refine m_lld C hM dX9_array_34 4 i (by decide) (show _ < 40 by omega) rfl ?_
  refine v_rl (hz.trans (sat_ge hb)) ?_
  refine v_ldc2 C dX9_array_35 g_kl_X9_68 ?_
  refine v_lc_ne (tgt := 46) C dX9_array_38 dX9_array_39 (by decide) (fun c_38 => absurd rfl c_38) (fun c_38 => ?_)
  refine v_iconst (v := 1) C dX9_array_42 (by decide) ?_
  refine v_goto (tgt := 64) C dX9_array_43 (by decide) ?_
  refine m_put C hM dX9_array_64 21 (by decide) g_fl_X9_65 (fun f hM => ?_)
  refine v_aload_n C dX9_array_67 rfl rfl ?_
  refine v_get C dX9_array_68 21 hM.1 rfl in_X9 (by decide) g_fl_X9_65 (fun _ h9 => h9) rfl ?_
  refine v_if_le (tgt := 76) C dX9_array_71 (by decide) (fun c_71 => absurd c_71 (show ¬ (1 : Int32) ≤ 0 by decide)) (fun c_71 => ?_)
  refine v_iconst (v := 0) C dX9_array_74 (by decide) ?_
  exact v_iret C hr hlk dX9_array_75 (Nat.le_refl _) (Nat.le_refl _) hM

set_option maxHeartbeats 4000000 in
set_option maxRecDepth 100000 in
theorem m_array_big (l : Launch) (D : va_G) (B : Nat) (K : Nat → ClassId) (f : St) (r : Nat → Nat) (f0 : St) (A : Nat → Nat → Int32) (L : Nat → Nat → Int64) (I : Nat → Int32) (n : Nat) (hM : MC K r f0 f A L I) (hI0 : I 0 = nI n) (hn40 : n ≤ 40) (i : Nat) (hi : i < n) (P : Nat) (hz : L 4 i = sat P) (na : Nat) (hI18 : I 18 = nI na) (hna : na ≤ 6) (hn6 : na < 6) (hb : P < 9223372036854775808) (hb2 : 400 < P) : Kc l D B K yX9_array cX9_array 3 ((some .int)) 4 0 0 [.ref (r 0), .int (nI i)] f (Qi_ D B (fun x f9 => MC K r f0 f9 A L (up1 (up1 I 21 0) 21 2))) := by
  refine v_met [(0, .ref (r 0)), (1, .int (nI i))] (by decide) (Nat.le_of_ble_eq_true rfl) rfl ?_
  intro p e s m args below meth c C hr hlk hin
  refine v_aload_n C dX9_array_0 rfl rfl ?_
  refine v_iconst (v := 0) C dX9_array_1 (by decide) ?_
  refine m_put C hM dX9_array_2 21 (by decide) g_fl_X9_65 (fun f hM => ?_)
  refine v_aload_n C dX9_array_5 rfl rfl ?_
  refine v_iload_n C dX9_array_6 rfl rfl ?_
  refine v_ci (r_V C (m_noRange_ok l D B K _ r f0 A L (up1 I 21 0) n hM hI0 hn40 i hi) dX9_array_7 hM.1 rfl g_ml_X9_101 g_im_yX9_noRange g_se_X9_yX9_noRange_yX9_noRange g_in_X9 g_cd_yX9_noRange (rn_le (by decide)) (by decide) rfl rfl hdn_yX9_noRange (Nat.le_of_ble_eq_true rfl) ⟨Nat.le_of_ble_eq_true rfl, Nat.le_of_ble_eq_true rfl⟩) (fun r_7 f_7 hp_7 => ?_)
  obtain ⟨rfl, hf9⟩ := hp_7
  have hf9 := hf9.symm
  subst hf9
  refine v_if_eq (tgt := 16) C dX9_array_10 (by decide) (fun _ => ?_) (fun c_10 => absurd c_10 (by decide))
  refine v_aload_n C dX9_array_16 rfl rfl ?_
  refine v_get C dX9_array_17 18 hM.1 rfl in_X9 (by decide) g_fl_X9_62 (fun _ h9 => h9) rfl ?_
  refine v_ri hI18 ?_
  refine v_bipush (v := 6) C dX9_array_20 (by decide) ?_
  refine v_icmp_ne (tgt := 28) C dX9_array_22 (by decide) (fun c_22 => ?_) (fun c_22 => absurd c_22 (fun h9 => by have h8 := (nI_eq (b := 6) (by omega) (by omega)).mp h9; omega))
  refine v_aload_n C dX9_array_28 rfl rfl ?_
  refine v_aload_n C dX9_array_29 rfl rfl ?_
  refine v_get C dX9_array_30 4 hM.1 rfl in_X9 (by decide) g_fl_X9_19 (fun _ h9 => h9) rfl ?_
  refine v_iload_n C dX9_array_33 rfl rfl ?_
  refine m_lld C hM dX9_array_34 4 i (by decide) (show _ < 40 by omega) rfl ?_
  refine v_rl hz ?_
  refine v_ldc2 C dX9_array_35 g_kl_X9_68 ?_
  refine v_lc_ne (tgt := 46) C dX9_array_38 dX9_array_39 (by decide) (fun c_38 => ?_) (fun c_38 => absurd c_38 (fun h9 => absurd ((sat_m1 _).mp h9) (by omega)))
  refine v_aload_n C dX9_array_46 rfl rfl ?_
  refine v_get C dX9_array_47 4 hM.1 rfl in_X9 (by decide) g_fl_X9_19 (fun _ h9 => h9) rfl ?_
  refine v_iload_n C dX9_array_50 rfl rfl ?_
  refine m_lld C hM dX9_array_51 4 i (by decide) (show _ < 40 by omega) rfl ?_
  refine v_rl hz ?_
  refine v_ldc2 C dX9_array_52 g_kl_X9_169 ?_
  refine v_lc_le (tgt := 63) C dX9_array_55 dX9_array_56 (by decide) (fun c_55 => absurd c_55 (fun h9 => by rw [l_le, sat_toInt, if_pos hb] at h9; have z : (400 : Int64).toInt = 400 := rfl; omega)) (fun c_55 => ?_)
  refine v_iconst (v := 2) C dX9_array_59 (by decide) ?_
  refine v_goto (tgt := 64) C dX9_array_60 (by decide) ?_
  refine m_put C hM dX9_array_64 21 (by decide) g_fl_X9_65 (fun f hM => ?_)
  refine v_aload_n C dX9_array_67 rfl rfl ?_
  refine v_get C dX9_array_68 21 hM.1 rfl in_X9 (by decide) g_fl_X9_65 (fun _ h9 => h9) rfl ?_
  refine v_if_le (tgt := 76) C dX9_array_71 (by decide) (fun c_71 => absurd c_71 (show ¬ (2 : Int32) ≤ 0 by decide)) (fun c_71 => ?_)
  refine v_iconst (v := 0) C dX9_array_74 (by decide) ?_
  exact v_iret C hr hlk dX9_array_75 (Nat.le_refl _) (Nat.le_refl _) hM

set_option maxHeartbeats 4000000 in
set_option maxRecDepth 100000 in
theorem L_array9 {p : Program} {l : Launch} {e : Env} {s : State} {m : MethodId} {args : Array Value} {below : List Frame} {meth : Method} {c : Code} {D : va_G} {B : Nat} {K : Nat → ClassId} (C : Cx p s m args c cX9_array 3 yX9_array.cls D B K) (hr : meth.sig.returnType = (some .int)) (hlk : meth.locks = false) (r : Nat → Nat) (f0 : St) (A : Nat → Nat → Int32) (L : Nat → Nat → Int64) (I : Nat → Int32) (na i : Nat) (hI18 : I 18 = nI na) (hna : na < 6) (hi : i < 40) : ∀ (n9 k : Nat) (f : St) (g : Nat → Int32), k ≤ 400 → 401 ≤ k + n9 → (∀ j, g j = if 400 * na ≤ j ∧ j < 400 * na + k then 0 else A 20 j) → MC K r f0 f (up1 A 20 g) L I → V p l e (RM 4 0 0) s m args below meth c D B 3 (MQ below (Qi_ D B (fun x f9 => x = nI na ∧ ∃ g : Nat → Int32, (∀ j, g j = if 400 * na ≤ j ∧ j < 400 * na + 400 then 0 else A 20 j) ∧ MC K r f0 f9 (up1 (up1 A 20 g) 19 (upd (A 19) na (nI i))) L (up1 I 18 (nI (na + 1))))) args s 0 0 (AB B)) 0 0 f (lof [(0, .ref (r 0)), (1, .int (nI i)), (2, .int (nI k))]) 78 [] := by
  intro n9
  induction n9 with
  | zero => intro k f g h1 h2; omega
  | succ n9 ih =>
    intro k f g hk hin hg hM
    by_cases hlt : k < 400
    · refine v_iload_n C dX9_array_78 rfl rfl ?_
      refine v_sipush (v := 400) C dX9_array_79 (by decide) ?_
      refine v_icmp_ge (tgt := 107) C dX9_array_82 (by decide) (fun c_82 => absurd c_82 (nI_ge (b := 400) hlt (by omega))) (fun c_82 => ?_)
      refine v_aload_n C dX9_array_85 rfl rfl ?_
      refine v_get C dX9_array_86 20 hM.1 rfl in_X9 (by decide) g_fl_X9_51 (fun _ h9 => h9) rfl ?_
      refine v_sipush (v := 400) C dX9_array_89 (by decide) ?_
      refine v_aload_n C dX9_array_92 rfl rfl ?_
      refine v_get C dX9_array_93 18 hM.1 rfl in_X9 (by decide) g_fl_X9_62 (fun _ h9 => h9) rfl ?_
      refine v_ri hI18 ?_
      refine v_imul C dX9_array_96 ?_
      refine v_iload_n C dX9_array_97 rfl rfl ?_
      refine v_iadd C dX9_array_98 ?_
      refine v_iconst (v := 0) C dX9_array_99 (by decide) ?_
      refine m_ist C hM dX9_array_100 20 ((400 * na) + k) (by decide) (show _ < 2400 by omega) (by simp only [← nI_add, ← pk_mul]; rfl) (fun f hM => ?_)
      refine v_iinc (y := 1) C dX9_array_101 rfl (by decide) (by decide) rfl ?_
      refine v_goto (tgt := 78) C dX9_array_104 (by decide) ?_
      refine v_loc [(0, .ref (r 0)), (1, .int (nI i)), (2, .int (nI (k + 1)))] (lsub_c rfl (lsub_c rfl (lsub_c (by rw [nI_succ]; rfl) lsub_n))) ?_
      rw [up1_self, up1_up1] at hM
      refine ih (k + 1) f _ hlt (by omega) (fun j => ?_) hM
      by_cases e9 : j = 400 * na + k
      · subst e9; rw [pk_us, if_pos ⟨by omega, by omega⟩]
      · rw [pk_un e9, hg]
        by_cases c1 : 400 * na ≤ j ∧ j < 400 * na + k
        · rw [if_pos c1, if_pos ⟨c1.1, by omega⟩]
        · rw [if_neg c1, if_neg (by omega)]
    · refine v_iload_n C dX9_array_78 rfl rfl ?_
      refine v_sipush (v := 400) C dX9_array_79 (by decide) ?_
      refine v_icmp_ge (tgt := 107) C dX9_array_82 (by decide) (fun c_82 => ?_) (fun c_82 => absurd (nI_le (a := 400) (by omega) (by omega)) c_82)
      refine v_aload_n C dX9_array_107 rfl rfl ?_
      refine v_get C dX9_array_108 19 hM.1 rfl in_X9 (by decide) g_fl_X9_48 (fun _ h9 => h9) rfl ?_
      refine v_aload_n C dX9_array_111 rfl rfl ?_
      refine v_get C dX9_array_112 18 hM.1 rfl in_X9 (by decide) g_fl_X9_62 (fun _ h9 => h9) rfl ?_
      refine v_ri hI18 ?_
      refine v_iload_n C dX9_array_115 rfl rfl ?_
      refine m_ist C hM dX9_array_116 19 na (by decide) (show _ < 6 by omega) rfl (fun f hM => ?_)
      refine v_aload_n C dX9_array_117 rfl rfl ?_
      refine v_dup C dX9_array_118 rfl ?_
      refine v_get C dX9_array_119 18 hM.1 rfl in_X9 (by decide) g_fl_X9_62 (fun _ h9 => h9) rfl ?_
      refine v_iconst (v := 1) C dX9_array_122 (by decide) ?_
      refine v_iadd C dX9_array_123 ?_
      refine v_ri (show I 18 + 1 = nI (na + 1) by rw [hI18, nI_1]) ?_
      refine m_put C hM dX9_array_124 18 (by decide) g_fl_X9_62 (fun f hM => ?_)
      refine v_aload_n C dX9_array_127 rfl rfl ?_
      refine v_get C dX9_array_128 18 hM.1 rfl in_X9 (by decide) g_fl_X9_62 (fun _ h9 => h9) rfl ?_
      refine v_iconst (v := 1) C dX9_array_131 (by decide) ?_
      refine v_isub C dX9_array_132 ?_
      refine v_ri (show nI (na + 1) - 1 = nI na from nI_pred na) ?_
      exact v_iret C hr hlk dX9_array_133 (Nat.le_refl _) (Nat.le_refl _) ⟨rfl, g, fun j => by rw [hg, show k = 400 by omega], hM⟩

set_option maxHeartbeats 4000000 in
set_option maxRecDepth 100000 in
theorem m_array_ok (l : Launch) (D : va_G) (B : Nat) (K : Nat → ClassId) (f : St) (r : Nat → Nat) (f0 : St) (A : Nat → Nat → Int32) (L : Nat → Nat → Int64) (I : Nat → Int32) (n : Nat) (hM : MC K r f0 f A L I) (hI0 : I 0 = nI n) (hn40 : n ≤ 40) (i : Nat) (hi : i < n) (P : Nat) (hz : L 4 i = sat P) (na : Nat) (hI18 : I 18 = nI na) (hna : na ≤ 6) (hn6 : na < 6) (hb : P ≤ 400) : Kc l D B K yX9_array cX9_array 3 ((some .int)) 4 0 0 [.ref (r 0), .int (nI i)] f (Qi_ D B (fun x f9 => x = nI na ∧ ∃ g : Nat → Int32, (∀ j, g j = if 400 * na ≤ j ∧ j < 400 * na + 400 then 0 else A 20 j) ∧ MC K r f0 f9 (up1 (up1 A 20 g) 19 (upd (A 19) na (nI i))) L (up1 (up1 (up1 I 21 0) 21 0) 18 (nI (na + 1))))) := by
  refine v_met [(0, .ref (r 0)), (1, .int (nI i))] (by decide) (Nat.le_of_ble_eq_true rfl) rfl ?_
  intro p e s m args below meth c C hr hlk hin
  refine v_aload_n C dX9_array_0 rfl rfl ?_
  refine v_iconst (v := 0) C dX9_array_1 (by decide) ?_
  refine m_put C hM dX9_array_2 21 (by decide) g_fl_X9_65 (fun f hM => ?_)
  refine v_aload_n C dX9_array_5 rfl rfl ?_
  refine v_iload_n C dX9_array_6 rfl rfl ?_
  refine v_ci (r_V C (m_noRange_ok l D B K _ r f0 A L (up1 I 21 0) n hM hI0 hn40 i hi) dX9_array_7 hM.1 rfl g_ml_X9_101 g_im_yX9_noRange g_se_X9_yX9_noRange_yX9_noRange g_in_X9 g_cd_yX9_noRange (rn_le (by decide)) (by decide) rfl rfl hdn_yX9_noRange (Nat.le_of_ble_eq_true rfl) ⟨Nat.le_of_ble_eq_true rfl, Nat.le_of_ble_eq_true rfl⟩) (fun r_7 f_7 hp_7 => ?_)
  obtain ⟨rfl, hf9⟩ := hp_7
  have hf9 := hf9.symm
  subst hf9
  refine v_if_eq (tgt := 16) C dX9_array_10 (by decide) (fun _ => ?_) (fun c_10 => absurd c_10 (by decide))
  refine v_aload_n C dX9_array_16 rfl rfl ?_
  refine v_get C dX9_array_17 18 hM.1 rfl in_X9 (by decide) g_fl_X9_62 (fun _ h9 => h9) rfl ?_
  refine v_ri hI18 ?_
  refine v_bipush (v := 6) C dX9_array_20 (by decide) ?_
  refine v_icmp_ne (tgt := 28) C dX9_array_22 (by decide) (fun c_22 => ?_) (fun c_22 => absurd c_22 (fun h9 => by have h8 := (nI_eq (b := 6) (by omega) (by omega)).mp h9; omega))
  refine v_aload_n C dX9_array_28 rfl rfl ?_
  refine v_aload_n C dX9_array_29 rfl rfl ?_
  refine v_get C dX9_array_30 4 hM.1 rfl in_X9 (by decide) g_fl_X9_19 (fun _ h9 => h9) rfl ?_
  refine v_iload_n C dX9_array_33 rfl rfl ?_
  refine m_lld C hM dX9_array_34 4 i (by decide) (show _ < 40 by omega) rfl ?_
  refine v_rl hz ?_
  refine v_ldc2 C dX9_array_35 g_kl_X9_68 ?_
  refine v_lc_ne (tgt := 46) C dX9_array_38 dX9_array_39 (by decide) (fun c_38 => ?_) (fun c_38 => absurd c_38 (fun h9 => absurd ((sat_m1 _).mp h9) (by omega)))
  refine v_aload_n C dX9_array_46 rfl rfl ?_
  refine v_get C dX9_array_47 4 hM.1 rfl in_X9 (by decide) g_fl_X9_19 (fun _ h9 => h9) rfl ?_
  refine v_iload_n C dX9_array_50 rfl rfl ?_
  refine m_lld C hM dX9_array_51 4 i (by decide) (show _ < 40 by omega) rfl ?_
  refine v_rl hz ?_
  refine v_ldc2 C dX9_array_52 g_kl_X9_169 ?_
  refine v_lc_le (tgt := 63) C dX9_array_55 dX9_array_56 (by decide) (fun c_55 => ?_) (fun c_55 => absurd (by rw [l_le, sat_toInt, if_pos (by omega)]; have z : (400 : Int64).toInt = 400 := rfl; omega) c_55)
  refine v_iconst (v := 0) C dX9_array_63 (by decide) ?_
  refine m_put C hM dX9_array_64 21 (by decide) g_fl_X9_65 (fun f hM => ?_)
  refine v_aload_n C dX9_array_67 rfl rfl ?_
  refine v_get C dX9_array_68 21 hM.1 rfl in_X9 (by decide) g_fl_X9_65 (fun _ h9 => h9) rfl ?_
  refine v_if_le (tgt := 76) C dX9_array_71 (by decide) (fun c_71 => ?_) (fun c_71 => absurd (show (0 : Int32) ≤ 0 by decide) c_71)
  refine v_iconst (v := 0) C dX9_array_76 (by decide) ?_
  refine v_istore_n C dX9_array_77 rfl (by decide) rfl ?_
  refine v_loc [(0, .ref (r 0)), (1, .int (nI i)), (2, .int (nI 0))] (lsub_c rfl (lsub_c rfl (lsub_c rfl lsub_n))) ?_
  exact L_array9 C hr hlk r f0 A L (up1 (up1 I 21 0) 21 0) na i hI18 hn6 (by omega) 401 0 f (A 20) (by omega) (by omega) (fun j => by rw [if_neg (by omega)]) (by rw [up1_id]; exact hM)

set_option maxHeartbeats 4000000 in
set_option maxRecDepth 100000 in
theorem m_cellOf_no (l : Launch) (D : va_G) (B : Nat) (K : Nat → ClassId) (f : St) (r : Nat → Nat) (f0 : St) (A : Nat → Nat → Int32) (L : Nat → Nat → Int64) (I : Nat → Int32) (hM : MC K r f0 f A L I) (n : Nat) (hn40 : n ≤ 40) (na : Nat) (hna : na ≤ 6) (a i : Nat) (ha : a < na) (hi : i < n) (hab : A 19 a = nI i) (sg : Nat → Sg) (l9 : List Ent) (hrow : RowM A L sg l9 i n) (k9 : Nat) (e9 : Ent) (hm : missE sg (L 11) l9 0 = some (k9, e9)) : Kc l D B K yX9_cellOf cX9_cellOf 2 ((some .int)) 3 0 0 [.ref (r 0), .int (nI a)] f (Qi_ D B (fun x f9 => x = -1 ∧ MC K r f0 f9 A L (missI I k9 e9))) := by
  refine v_met [(0, .ref (r 0)), (1, .int (nI a))] (by decide) (Nat.le_of_ble_eq_true rfl) rfl ?_
  intro p e s m args below meth c C hr hlk hin
  refine v_aload_n C dX9_cellOf_0 rfl rfl ?_
  refine v_aload_n C dX9_cellOf_1 rfl rfl ?_
  refine v_get C dX9_cellOf_2 19 hM.1 rfl in_X9 (by decide) g_fl_X9_48 (fun _ h9 => h9) rfl ?_
  refine v_iload_n C dX9_cellOf_5 rfl rfl ?_
  refine m_ild C hM dX9_cellOf_6 19 a (by decide) (show _ < 6 by omega) rfl ?_
  refine v_ri hab ?_
  refine v_ci (r_V C (m_isHeld_no l D B K _ r f0 A L I sg l9 i n hM hrow (by omega) hn40 k9 e9 hm) dX9_cellOf_7 hM.1 rfl g_ml_X9_147 g_im_yX9_isHeld g_se_X9_yX9_isHeld_yX9_isHeld g_in_X9 g_cd_yX9_isHeld (rn_le (by decide)) (by decide) rfl rfl hdn_yX9_isHeld (Nat.le_of_ble_eq_true rfl) ⟨Nat.le_of_ble_eq_true rfl, Nat.le_of_ble_eq_true rfl⟩) (fun r_7 f_7 hp_7 => ?_)
  obtain ⟨rfl, hM⟩ := hp_7
  refine v_if_eq (tgt := 33) C dX9_cellOf_10 (by decide) (fun _ => ?_) (fun c_10 => absurd c_10 (by decide))
  refine v_iconst (v := (-1)) C dX9_cellOf_33 (by decide) ?_
  exact v_iret C hr hlk dX9_cellOf_34 (Nat.le_refl _) (Nat.le_refl _) ⟨rfl, hM⟩

set_option maxHeartbeats 4000000 in
set_option maxRecDepth 100000 in
theorem m_cellOf_yes (l : Launch) (D : va_G) (B : Nat) (K : Nat → ClassId) (f : St) (r : Nat → Nat) (f0 : St) (A : Nat → Nat → Int32) (L : Nat → Nat → Int64) (I : Nat → Int32) (hM : MC K r f0 f A L I) (n : Nat) (hn40 : n ≤ 40) (na : Nat) (hna : na ≤ 6) (a i : Nat) (ha : a < na) (hi : i < n) (hab : A 19 a = nI i) (sg : Nat → Sg) (l9 : List Ent) (hrow : RowM A L sg l9 i n) (hti : ∀ e ∈ l9, e.2.1 = true → cntS (sg e.1) < 9223372036854775808) (hm : missE sg (L 11) l9 0 = none) (hix : idxE sg (L 11) l9 0 0 < 400) : Kc l D B K yX9_cellOf cX9_cellOf 2 ((some .int)) 3 0 0 [.ref (r 0), .int (nI a)] f (Qi_ D B (fun x f9 => x = nI (400 * a + idxE sg (L 11) l9 0 0) ∧ f9 = f)) := by
  refine v_met [(0, .ref (r 0)), (1, .int (nI a))] (by decide) (Nat.le_of_ble_eq_true rfl) rfl ?_
  intro p e s m args below meth c C hr hlk hin
  refine v_aload_n C dX9_cellOf_0 rfl rfl ?_
  refine v_aload_n C dX9_cellOf_1 rfl rfl ?_
  refine v_get C dX9_cellOf_2 19 hM.1 rfl in_X9 (by decide) g_fl_X9_48 (fun _ h9 => h9) rfl ?_
  refine v_iload_n C dX9_cellOf_5 rfl rfl ?_
  refine m_ild C hM dX9_cellOf_6 19 a (by decide) (show _ < 6 by omega) rfl ?_
  refine v_ri hab ?_
  refine v_ci (r_V C (m_isHeld_yes l D B K _ r f0 A L I sg l9 i n hM hrow (by omega) hn40 hm) dX9_cellOf_7 hM.1 rfl g_ml_X9_147 g_im_yX9_isHeld g_se_X9_yX9_isHeld_yX9_isHeld g_in_X9 g_cd_yX9_isHeld (rn_le (by decide)) (by decide) rfl rfl hdn_yX9_isHeld (Nat.le_of_ble_eq_true rfl) ⟨Nat.le_of_ble_eq_true rfl, Nat.le_of_ble_eq_true rfl⟩) (fun r_7 f_7 hp_7 => ?_)
  obtain ⟨rfl, hf9⟩ := hp_7
  have hf9 := hf9.symm
  subst hf9
  refine v_if_eq (tgt := 33) C dX9_cellOf_10 (by decide) (fun c_10 => absurd c_10 (by decide)) (fun _ => ?_)
  refine v_sipush (v := 400) C dX9_cellOf_13 (by decide) ?_
  refine v_iload_n C dX9_cellOf_16 rfl rfl ?_
  refine v_imul C dX9_cellOf_17 ?_
  refine v_aload_n C dX9_cellOf_18 rfl rfl ?_
  refine v_aload_n C dX9_cellOf_19 rfl rfl ?_
  refine v_get C dX9_cellOf_20 19 hM.1 rfl in_X9 (by decide) g_fl_X9_48 (fun _ h9 => h9) rfl ?_
  refine v_iload_n C dX9_cellOf_23 rfl rfl ?_
  refine m_ild C hM dX9_cellOf_24 19 a (by decide) (show _ < 6 by omega) rfl ?_
  refine v_ri hab ?_
  refine v_cl (r_V C (m_place l D B K _ r f0 A L I sg l9 i n hM hrow (by omega) hn40 hti hm) dX9_cellOf_25 hM.1 rfl g_ml_X9_150 g_im_yX9_place g_se_X9_yX9_place_yX9_place g_in_X9 g_cd_yX9_place (rn_le (by decide)) (by decide) rfl rfl hdn_yX9_place (Nat.le_of_ble_eq_true rfl) ⟨Nat.le_of_ble_eq_true rfl, Nat.le_of_ble_eq_true rfl⟩) (fun r_25 f_25 hp_25 => ?_)
  obtain ⟨rfl, hf9⟩ := hp_25
  have hf9 := hf9.symm
  subst hf9
  refine v_l2i C dX9_cellOf_28 ?_
  refine v_ri (show (sat (idxE sg (L 11) l9 0 0)).toInt32 = nI (idxE sg (L 11) l9 0 0) by rw [sat_lt (by omega), lN_i]) ?_
  refine v_iadd C dX9_cellOf_29 ?_
  refine v_goto (tgt := 34) C dX9_cellOf_30 (by decide) ?_
  exact v_iret C hr hlk dX9_cellOf_34 (Nat.le_refl _) (Nat.le_refl _) ⟨by simp only [← nI_add, ← pk_mul]; rfl, rfl⟩

set_option maxHeartbeats 4000000 in
set_option maxRecDepth 100000 in
theorem m_put_bad (l : Launch) (D : va_G) (B : Nat) (K : Nat → ClassId) (f : St) (r : Nat → Nat) (f0 : St) (A : Nat → Nat → Int32) (L : Nat → Nat → Int64) (I : Nat → Int32) (hM : MC K r f0 f A L I) (na : Nat) (hI18 : I 18 = nI na) (hna : na ≤ 6) (x : Int32) (hx : x < 0 ∨ nI na ≤ x) (v : Int32) : Kc l D B K yX9_put cX9_put 5 ((some .int)) 4 0 0 [.ref (r 0), .int x, .int v] f (Qi_ D B (fun x f9 => x = -101 ∧ MC K r f0 f9 A L (up1 I 21 0))) := by
  refine v_met [(0, .ref (r 0)), (1, .int x), (2, .int v)] (by decide) (Nat.le_of_ble_eq_true rfl) rfl ?_
  intro p e s m args below meth c C hr hlk hin
  refine v_aload_n C dX9_put_0 rfl rfl ?_
  refine v_iconst (v := 0) C dX9_put_1 (by decide) ?_
  refine m_put C hM dX9_put_2 21 (by decide) g_fl_X9_65 (fun f hM => ?_)
  refine v_aload_n C dX9_put_5 rfl rfl ?_
  refine v_iload_n C dX9_put_6 rfl rfl ?_
  refine v_ci (r_V C (m_noArray_bad l D B K _ r f0 A L (up1 I 21 0) na hM hI18 (by omega) x hx) dX9_put_7 hM.1 rfl g_ml_X9_171 g_im_yX9_noArray g_se_X9_yX9_noArray_yX9_noArray g_in_X9 g_cd_yX9_noArray (rn_le (by decide)) (by decide) rfl rfl hdn_yX9_noArray (Nat.le_of_ble_eq_true rfl) ⟨Nat.le_of_ble_eq_true rfl, Nat.le_of_ble_eq_true rfl⟩) (fun r_7 f_7 hp_7 => ?_)
  obtain ⟨rfl, hf9⟩ := hp_7
  have hf9 := hf9.symm
  subst hf9
  refine v_if_eq (tgt := 16) C dX9_put_10 (by decide) (fun c_10 => absurd c_10 (by decide)) (fun _ => ?_)
  refine v_bipush (v := (-101)) C dX9_put_13 (by decide) ?_
  exact v_iret C hr hlk dX9_put_15 (Nat.le_refl _) (Nat.le_refl _) ⟨rfl, hM⟩

set_option maxHeartbeats 4000000 in
set_option maxRecDepth 100000 in
theorem m_put_miss (l : Launch) (D : va_G) (B : Nat) (K : Nat → ClassId) (f : St) (r : Nat → Nat) (f0 : St) (A : Nat → Nat → Int32) (L : Nat → Nat → Int64) (I : Nat → Int32) (hM : MC K r f0 f A L I) (n : Nat) (hn40 : n ≤ 40) (na : Nat) (hna : na ≤ 6) (a i : Nat) (ha : a < na) (hi : i < n) (hab : A 19 a = nI i) (sg : Nat → Sg) (l9 : List Ent) (hrow : RowM A L sg l9 i n) (hI18 : I 18 = nI na) (k9 : Nat) (e9 : Ent) (hm : missE sg (L 11) l9 0 = some (k9, e9)) (v : Int32) : Kc l D B K yX9_put cX9_put 5 ((some .int)) 4 0 0 [.ref (r 0), .int (nI a), .int v] f (Qi_ D B (fun x f9 => MC K r f0 f9 A L (up1 (missI (up1 I 21 0) k9 e9) 21 1))) := by
  refine v_met [(0, .ref (r 0)), (1, .int (nI a)), (2, .int v)] (by decide) (Nat.le_of_ble_eq_true rfl) rfl ?_
  intro p e s m args below meth c C hr hlk hin
  refine v_aload_n C dX9_put_0 rfl rfl ?_
  refine v_iconst (v := 0) C dX9_put_1 (by decide) ?_
  refine m_put C hM dX9_put_2 21 (by decide) g_fl_X9_65 (fun f hM => ?_)
  refine v_aload_n C dX9_put_5 rfl rfl ?_
  refine v_iload_n C dX9_put_6 rfl rfl ?_
  refine v_ci (r_V C (m_noArray_ok l D B K _ r f0 A L (up1 I 21 0) na hM hI18 (by omega) a ha) dX9_put_7 hM.1 rfl g_ml_X9_171 g_im_yX9_noArray g_se_X9_yX9_noArray_yX9_noArray g_in_X9 g_cd_yX9_noArray (rn_le (by decide)) (by decide) rfl rfl hdn_yX9_noArray (Nat.le_of_ble_eq_true rfl) ⟨Nat.le_of_ble_eq_true rfl, Nat.le_of_ble_eq_true rfl⟩) (fun r_7 f_7 hp_7 => ?_)
  obtain ⟨rfl, hf9⟩ := hp_7
  have hf9 := hf9.symm
  subst hf9
  refine v_if_eq (tgt := 16) C dX9_put_10 (by decide) (fun _ => ?_) (fun c_10 => absurd c_10 (by decide))
  refine v_aload_n C dX9_put_16 rfl rfl ?_
  refine v_iload_n C dX9_put_17 rfl rfl ?_
  refine v_ci (r_V C (m_cellOf_no l D B K _ r f0 A L (up1 I 21 0) hM n hn40 na hna a i ha hi hab sg l9 hrow k9 e9 hm) dX9_put_18 hM.1 rfl g_ml_X9_174 g_im_yX9_cellOf g_se_X9_yX9_cellOf_yX9_cellOf g_in_X9 g_cd_yX9_cellOf (rn_le (by decide)) (by decide) rfl rfl hdn_yX9_cellOf (Nat.le_of_ble_eq_true rfl) ⟨Nat.le_of_ble_eq_true rfl, Nat.le_of_ble_eq_true rfl⟩) (fun r_18 f_18 hp_18 => ?_)
  obtain ⟨rfl, hM⟩ := hp_18
  refine v_istore_n C dX9_put_21 rfl (by decide) rfl ?_
  refine v_iload_n C dX9_put_22 rfl rfl ?_
  refine v_if_ge (tgt := 33) C dX9_put_23 (by decide) (fun c_23 => absurd c_23 (by decide)) (fun _ => ?_)
  refine v_aload_n C dX9_put_26 rfl rfl ?_
  refine v_iconst (v := 1) C dX9_put_27 (by decide) ?_
  refine m_put C hM dX9_put_28 21 (by decide) g_fl_X9_65 (fun f hM => ?_)
  refine v_iconst (v := 0) C dX9_put_31 (by decide) ?_
  exact v_iret C hr hlk dX9_put_32 (Nat.le_refl _) (Nat.le_refl _) hM

set_option maxHeartbeats 4000000 in
set_option maxRecDepth 100000 in
theorem m_put_ok (l : Launch) (D : va_G) (B : Nat) (K : Nat → ClassId) (f : St) (r : Nat → Nat) (f0 : St) (A : Nat → Nat → Int32) (L : Nat → Nat → Int64) (I : Nat → Int32) (hM : MC K r f0 f A L I) (n : Nat) (hn40 : n ≤ 40) (na : Nat) (hna : na ≤ 6) (a i : Nat) (ha : a < na) (hi : i < n) (hab : A 19 a = nI i) (sg : Nat → Sg) (l9 : List Ent) (hrow : RowM A L sg l9 i n) (hI18 : I 18 = nI na) (hti : ∀ e ∈ l9, e.2.1 = true → cntS (sg e.1) < 9223372036854775808) (hm : missE sg (L 11) l9 0 = none) (hix : idxE sg (L 11) l9 0 0 < 400) (v : Int32) : Kc l D B K yX9_put cX9_put 5 ((some .int)) 4 0 0 [.ref (r 0), .int (nI a), .int v] f (Qi_ D B (fun x f9 => x = A 20 (400 * a + idxE sg (L 11) l9 0 0) ∧ MC K r f0 f9 (up1 A 20 (upd (A 20) (400 * a + idxE sg (L 11) l9 0 0) v)) L (up1 I 21 0))) := by
  refine v_met [(0, .ref (r 0)), (1, .int (nI a)), (2, .int v)] (by decide) (Nat.le_of_ble_eq_true rfl) rfl ?_
  intro p e s m args below meth c C hr hlk hin
  refine v_aload_n C dX9_put_0 rfl rfl ?_
  refine v_iconst (v := 0) C dX9_put_1 (by decide) ?_
  refine m_put C hM dX9_put_2 21 (by decide) g_fl_X9_65 (fun f hM => ?_)
  refine v_aload_n C dX9_put_5 rfl rfl ?_
  refine v_iload_n C dX9_put_6 rfl rfl ?_
  refine v_ci (r_V C (m_noArray_ok l D B K _ r f0 A L (up1 I 21 0) na hM hI18 (by omega) a ha) dX9_put_7 hM.1 rfl g_ml_X9_171 g_im_yX9_noArray g_se_X9_yX9_noArray_yX9_noArray g_in_X9 g_cd_yX9_noArray (rn_le (by decide)) (by decide) rfl rfl hdn_yX9_noArray (Nat.le_of_ble_eq_true rfl) ⟨Nat.le_of_ble_eq_true rfl, Nat.le_of_ble_eq_true rfl⟩) (fun r_7 f_7 hp_7 => ?_)
  obtain ⟨rfl, hf9⟩ := hp_7
  have hf9 := hf9.symm
  subst hf9
  refine v_if_eq (tgt := 16) C dX9_put_10 (by decide) (fun _ => ?_) (fun c_10 => absurd c_10 (by decide))
  refine v_aload_n C dX9_put_16 rfl rfl ?_
  refine v_iload_n C dX9_put_17 rfl rfl ?_
  refine v_ci (r_V C (m_cellOf_yes l D B K _ r f0 A L (up1 I 21 0) hM n hn40 na hna a i ha hi hab sg l9 hrow hti hm hix) dX9_put_18 hM.1 rfl g_ml_X9_174 g_im_yX9_cellOf g_se_X9_yX9_cellOf_yX9_cellOf g_in_X9 g_cd_yX9_cellOf (rn_le (by decide)) (by decide) rfl rfl hdn_yX9_cellOf (Nat.le_of_ble_eq_true rfl) ⟨Nat.le_of_ble_eq_true rfl, Nat.le_of_ble_eq_true rfl⟩) (fun r_18 f_18 hp_18 => ?_)
  obtain ⟨rfl, hf9⟩ := hp_18
  have hf9 := hf9.symm
  subst hf9
  refine v_istore_n C dX9_put_21 rfl (by decide) rfl ?_
  refine v_iload_n C dX9_put_22 rfl rfl ?_
  refine v_if_ge (tgt := 33) C dX9_put_23 (by decide) (fun c_23 => ?_) (fun c_23 => absurd (show (0 : Int32) ≤ nI (400 * a + idxE sg (L 11) l9 0 0) from nI_pos' (by omega)) c_23)
  refine v_aload_n C dX9_put_33 rfl rfl ?_
  refine v_get C dX9_put_34 20 hM.1 rfl in_X9 (by decide) g_fl_X9_51 (fun _ h9 => h9) rfl ?_
  refine v_iload_n C dX9_put_37 rfl rfl ?_
  refine m_ild C hM dX9_put_38 20 (400 * a + idxE sg (L 11) l9 0 0) (by decide) (show _ < 2400 by omega) rfl ?_
  refine v_istore C dX9_put_39 (by decide) rfl ?_
  refine v_aload_n C dX9_put_41 rfl rfl ?_
  refine v_get C dX9_put_42 20 hM.1 rfl in_X9 (by decide) g_fl_X9_51 (fun _ h9 => h9) rfl ?_
  refine v_iload_n C dX9_put_45 rfl rfl ?_
  refine v_iload_n C dX9_put_46 rfl rfl ?_
  refine m_ist C hM dX9_put_47 20 (400 * a + idxE sg (L 11) l9 0 0) (by decide) (show _ < 2400 by omega) rfl (fun f hM => ?_)
  refine v_iload C dX9_put_48 rfl ?_
  exact v_iret C hr hlk dX9_put_50 (Nat.le_refl _) (Nat.le_refl _) ⟨rfl, hM⟩

set_option maxHeartbeats 4000000 in
set_option maxRecDepth 100000 in
theorem m_at_bad (l : Launch) (D : va_G) (B : Nat) (K : Nat → ClassId) (f : St) (r : Nat → Nat) (f0 : St) (A : Nat → Nat → Int32) (L : Nat → Nat → Int64) (I : Nat → Int32) (hM : MC K r f0 f A L I) (na : Nat) (hI18 : I 18 = nI na) (hna : na ≤ 6) (x : Int32) (hx : x < 0 ∨ nI na ≤ x) : Kc l D B K yX9_at cX9_at 3 ((some .int)) 4 0 0 [.ref (r 0), .int x] f (Qi_ D B (fun x f9 => x = -101 ∧ MC K r f0 f9 A L (up1 I 21 0))) := by
  refine v_met [(0, .ref (r 0)), (1, .int x)] (by decide) (Nat.le_of_ble_eq_true rfl) rfl ?_
  intro p e s m args below meth c C hr hlk hin
  refine v_aload_n C dX9_at_0 rfl rfl ?_
  refine v_iconst (v := 0) C dX9_at_1 (by decide) ?_
  refine m_put C hM dX9_at_2 21 (by decide) g_fl_X9_65 (fun f hM => ?_)
  refine v_aload_n C dX9_at_5 rfl rfl ?_
  refine v_iload_n C dX9_at_6 rfl rfl ?_
  refine v_ci (r_V C (m_noArray_bad l D B K _ r f0 A L (up1 I 21 0) na hM hI18 (by omega) x hx) dX9_at_7 hM.1 rfl g_ml_X9_171 g_im_yX9_noArray g_se_X9_yX9_noArray_yX9_noArray g_in_X9 g_cd_yX9_noArray (rn_le (by decide)) (by decide) rfl rfl hdn_yX9_noArray (Nat.le_of_ble_eq_true rfl) ⟨Nat.le_of_ble_eq_true rfl, Nat.le_of_ble_eq_true rfl⟩) (fun r_7 f_7 hp_7 => ?_)
  obtain ⟨rfl, hf9⟩ := hp_7
  have hf9 := hf9.symm
  subst hf9
  refine v_if_eq (tgt := 16) C dX9_at_10 (by decide) (fun c_10 => absurd c_10 (by decide)) (fun _ => ?_)
  refine v_bipush (v := (-101)) C dX9_at_13 (by decide) ?_
  exact v_iret C hr hlk dX9_at_15 (Nat.le_refl _) (Nat.le_refl _) ⟨rfl, hM⟩

set_option maxHeartbeats 4000000 in
set_option maxRecDepth 100000 in
theorem m_at_miss (l : Launch) (D : va_G) (B : Nat) (K : Nat → ClassId) (f : St) (r : Nat → Nat) (f0 : St) (A : Nat → Nat → Int32) (L : Nat → Nat → Int64) (I : Nat → Int32) (hM : MC K r f0 f A L I) (n : Nat) (hn40 : n ≤ 40) (na : Nat) (hna : na ≤ 6) (a i : Nat) (ha : a < na) (hi : i < n) (hab : A 19 a = nI i) (sg : Nat → Sg) (l9 : List Ent) (hrow : RowM A L sg l9 i n) (hI18 : I 18 = nI na) (k9 : Nat) (e9 : Ent) (hm : missE sg (L 11) l9 0 = some (k9, e9)) : Kc l D B K yX9_at cX9_at 3 ((some .int)) 4 0 0 [.ref (r 0), .int (nI a)] f (Qi_ D B (fun x f9 => MC K r f0 f9 A L (up1 (missI (up1 I 21 0) k9 e9) 21 1))) := by
  refine v_met [(0, .ref (r 0)), (1, .int (nI a))] (by decide) (Nat.le_of_ble_eq_true rfl) rfl ?_
  intro p e s m args below meth c C hr hlk hin
  refine v_aload_n C dX9_at_0 rfl rfl ?_
  refine v_iconst (v := 0) C dX9_at_1 (by decide) ?_
  refine m_put C hM dX9_at_2 21 (by decide) g_fl_X9_65 (fun f hM => ?_)
  refine v_aload_n C dX9_at_5 rfl rfl ?_
  refine v_iload_n C dX9_at_6 rfl rfl ?_
  refine v_ci (r_V C (m_noArray_ok l D B K _ r f0 A L (up1 I 21 0) na hM hI18 (by omega) a ha) dX9_at_7 hM.1 rfl g_ml_X9_171 g_im_yX9_noArray g_se_X9_yX9_noArray_yX9_noArray g_in_X9 g_cd_yX9_noArray (rn_le (by decide)) (by decide) rfl rfl hdn_yX9_noArray (Nat.le_of_ble_eq_true rfl) ⟨Nat.le_of_ble_eq_true rfl, Nat.le_of_ble_eq_true rfl⟩) (fun r_7 f_7 hp_7 => ?_)
  obtain ⟨rfl, hf9⟩ := hp_7
  have hf9 := hf9.symm
  subst hf9
  refine v_if_eq (tgt := 16) C dX9_at_10 (by decide) (fun _ => ?_) (fun c_10 => absurd c_10 (by decide))
  refine v_aload_n C dX9_at_16 rfl rfl ?_
  refine v_iload_n C dX9_at_17 rfl rfl ?_
  refine v_ci (r_V C (m_cellOf_no l D B K _ r f0 A L (up1 I 21 0) hM n hn40 na hna a i ha hi hab sg l9 hrow k9 e9 hm) dX9_at_18 hM.1 rfl g_ml_X9_174 g_im_yX9_cellOf g_se_X9_yX9_cellOf_yX9_cellOf g_in_X9 g_cd_yX9_cellOf (rn_le (by decide)) (by decide) rfl rfl hdn_yX9_cellOf (Nat.le_of_ble_eq_true rfl) ⟨Nat.le_of_ble_eq_true rfl, Nat.le_of_ble_eq_true rfl⟩) (fun r_18 f_18 hp_18 => ?_)
  obtain ⟨rfl, hM⟩ := hp_18
  refine v_istore_n C dX9_at_21 rfl (by decide) rfl ?_
  refine v_aload_n C dX9_at_22 rfl rfl ?_
  refine v_iload_n C dX9_at_23 rfl rfl ?_
  refine v_if_ge (tgt := 31) C dX9_at_24 (by decide) (fun c_24 => absurd c_24 (by decide)) (fun _ => ?_)
  refine v_iconst (v := 1) C dX9_at_27 (by decide) ?_
  refine v_goto (tgt := 32) C dX9_at_28 (by decide) ?_
  refine m_put C hM dX9_at_32 21 (by decide) g_fl_X9_65 (fun f hM => ?_)
  refine v_iload_n C dX9_at_35 rfl rfl ?_
  refine v_if_ge (tgt := 43) C dX9_at_36 (by decide) (fun c_36 => absurd c_36 (by decide)) (fun _ => ?_)
  refine v_iconst (v := 0) C dX9_at_39 (by decide) ?_
  refine v_goto (tgt := 49) C dX9_at_40 (by decide) ?_
  exact v_iret C hr hlk dX9_at_49 (Nat.le_refl _) (Nat.le_refl _) hM

set_option maxHeartbeats 4000000 in
set_option maxRecDepth 100000 in
theorem m_at_ok (l : Launch) (D : va_G) (B : Nat) (K : Nat → ClassId) (f : St) (r : Nat → Nat) (f0 : St) (A : Nat → Nat → Int32) (L : Nat → Nat → Int64) (I : Nat → Int32) (hM : MC K r f0 f A L I) (n : Nat) (hn40 : n ≤ 40) (na : Nat) (hna : na ≤ 6) (a i : Nat) (ha : a < na) (hi : i < n) (hab : A 19 a = nI i) (sg : Nat → Sg) (l9 : List Ent) (hrow : RowM A L sg l9 i n) (hI18 : I 18 = nI na) (hti : ∀ e ∈ l9, e.2.1 = true → cntS (sg e.1) < 9223372036854775808) (hm : missE sg (L 11) l9 0 = none) (hix : idxE sg (L 11) l9 0 0 < 400) : Kc l D B K yX9_at cX9_at 3 ((some .int)) 4 0 0 [.ref (r 0), .int (nI a)] f (Qi_ D B (fun x f9 => x = A 20 (400 * a + idxE sg (L 11) l9 0 0) ∧ MC K r f0 f9 A L (up1 (up1 I 21 0) 21 0))) := by
  refine v_met [(0, .ref (r 0)), (1, .int (nI a))] (by decide) (Nat.le_of_ble_eq_true rfl) rfl ?_
  intro p e s m args below meth c C hr hlk hin
  refine v_aload_n C dX9_at_0 rfl rfl ?_
  refine v_iconst (v := 0) C dX9_at_1 (by decide) ?_
  refine m_put C hM dX9_at_2 21 (by decide) g_fl_X9_65 (fun f hM => ?_)
  refine v_aload_n C dX9_at_5 rfl rfl ?_
  refine v_iload_n C dX9_at_6 rfl rfl ?_
  refine v_ci (r_V C (m_noArray_ok l D B K _ r f0 A L (up1 I 21 0) na hM hI18 (by omega) a ha) dX9_at_7 hM.1 rfl g_ml_X9_171 g_im_yX9_noArray g_se_X9_yX9_noArray_yX9_noArray g_in_X9 g_cd_yX9_noArray (rn_le (by decide)) (by decide) rfl rfl hdn_yX9_noArray (Nat.le_of_ble_eq_true rfl) ⟨Nat.le_of_ble_eq_true rfl, Nat.le_of_ble_eq_true rfl⟩) (fun r_7 f_7 hp_7 => ?_)
  obtain ⟨rfl, hf9⟩ := hp_7
  have hf9 := hf9.symm
  subst hf9
  refine v_if_eq (tgt := 16) C dX9_at_10 (by decide) (fun _ => ?_) (fun c_10 => absurd c_10 (by decide))
  refine v_aload_n C dX9_at_16 rfl rfl ?_
  refine v_iload_n C dX9_at_17 rfl rfl ?_
  refine v_ci (r_V C (m_cellOf_yes l D B K _ r f0 A L (up1 I 21 0) hM n hn40 na hna a i ha hi hab sg l9 hrow hti hm hix) dX9_at_18 hM.1 rfl g_ml_X9_174 g_im_yX9_cellOf g_se_X9_yX9_cellOf_yX9_cellOf g_in_X9 g_cd_yX9_cellOf (rn_le (by decide)) (by decide) rfl rfl hdn_yX9_cellOf (Nat.le_of_ble_eq_true rfl) ⟨Nat.le_of_ble_eq_true rfl, Nat.le_of_ble_eq_true rfl⟩) (fun r_18 f_18 hp_18 => ?_)
  obtain ⟨rfl, hf9⟩ := hp_18
  have hf9 := hf9.symm
  subst hf9
  refine v_istore_n C dX9_at_21 rfl (by decide) rfl ?_
  refine v_aload_n C dX9_at_22 rfl rfl ?_
  refine v_iload_n C dX9_at_23 rfl rfl ?_
  refine v_if_ge (tgt := 31) C dX9_at_24 (by decide) (fun c_24 => ?_) (fun c_24 => absurd (show (0 : Int32) ≤ nI (400 * a + idxE sg (L 11) l9 0 0) from nI_pos' (by omega)) c_24)
  refine v_iconst (v := 0) C dX9_at_31 (by decide) ?_
  refine m_put C hM dX9_at_32 21 (by decide) g_fl_X9_65 (fun f hM => ?_)
  refine v_iload_n C dX9_at_35 rfl rfl ?_
  refine v_if_ge (tgt := 43) C dX9_at_36 (by decide) (fun c_36 => ?_) (fun c_36 => absurd (show (0 : Int32) ≤ nI (400 * a + idxE sg (L 11) l9 0 0) from nI_pos' (by omega)) c_36)
  refine v_aload_n C dX9_at_43 rfl rfl ?_
  refine v_get C dX9_at_44 20 hM.1 rfl in_X9 (by decide) g_fl_X9_51 (fun _ h9 => h9) rfl ?_
  refine v_iload_n C dX9_at_47 rfl rfl ?_
  refine m_ild C hM dX9_at_48 20 (400 * a + idxE sg (L 11) l9 0 0) (by decide) (show _ < 2400 by omega) rfl ?_
  exact v_iret C hr hlk dX9_at_49 (Nat.le_refl _) (Nat.le_refl _) ⟨rfl, hM⟩

set_option maxHeartbeats 4000000 in
set_option maxRecDepth 100000 in
theorem m_sum_bad (l : Launch) (D : va_G) (B : Nat) (K : Nat → ClassId) (f : St) (r : Nat → Nat) (f0 : St) (A : Nat → Nat → Int32) (L : Nat → Nat → Int64) (I : Nat → Int32) (hM : MC K r f0 f A L I) (na : Nat) (hI18 : I 18 = nI na) (hna : na ≤ 6) (x : Int32) (hx : x < 0 ∨ nI na ≤ x) (w : Int32) (v : Int64) : Kc l D B K yX9_sum cX9_sum 9 ((some .long)) 4 0 0 [.ref (r 0), .int x, .int w, .long v] f (Ql_ D B (fun x f9 => x = -1000000101 ∧ f9 = f)) := by
  refine v_met [(0, .ref (r 0)), (1, .int x), (2, .int w), (3, .long v)] (by decide) (Nat.le_of_ble_eq_true rfl) rfl ?_
  intro p e s m args below meth c C hr hlk hin
  refine v_aload_n C dX9_sum_0 rfl rfl ?_
  refine v_iload_n C dX9_sum_1 rfl rfl ?_
  refine v_ci (r_V C (m_noArray_bad l D B K _ r f0 A L I na hM hI18 (by omega) x hx) dX9_sum_2 hM.1 rfl g_ml_X9_171 g_im_yX9_noArray g_se_X9_yX9_noArray_yX9_noArray g_in_X9 g_cd_yX9_noArray (rn_le (by decide)) (by decide) rfl rfl hdn_yX9_noArray (Nat.le_of_ble_eq_true rfl) ⟨Nat.le_of_ble_eq_true rfl, Nat.le_of_ble_eq_true rfl⟩) (fun r_2 f_2 hp_2 => ?_)
  obtain ⟨rfl, hf9⟩ := hp_2
  have hf9 := hf9.symm
  subst hf9
  refine v_if_eq (tgt := 12) C dX9_sum_5 (by decide) (fun c_5 => absurd c_5 (by decide)) (fun _ => ?_)
  refine v_ldc2 C dX9_sum_8 g_kl_X9_116 ?_
  exact v_lret C hr hlk dX9_sum_11 (Nat.le_refl _) (Nat.le_refl _) ⟨rfl, rfl⟩

set_option maxHeartbeats 4000000 in
set_option maxRecDepth 100000 in
theorem m_sum_out (l : Launch) (D : va_G) (B : Nat) (K : Nat → ClassId) (f : St) (r : Nat → Nat) (f0 : St) (A : Nat → Nat → Int32) (L : Nat → Nat → Int64) (I : Nat → Int32) (hM : MC K r f0 f A L I) (n : Nat) (hn40 : n ≤ 40) (na : Nat) (hna : na ≤ 6) (a i : Nat) (ha : a < na) (hi : i < n) (hab : A 19 a = nI i) (sg : Nat → Sg) (l9 : List Ent) (hrow : RowM A L sg l9 i n) (hI18 : I 18 = nI na) (w : Int32) (v : Int64) (hw : inM w.toInt64 0 (nI l9.length - 1).toInt64 = 0) : Kc l D B K yX9_sum cX9_sum 9 ((some .long)) 4 0 0 [.ref (r 0), .int (nI a), .int w, .long v] f (Ql_ D B (fun x f9 => x = -1000000102 ∧ f9 = f)) := by
  refine v_met [(0, .ref (r 0)), (1, .int (nI a)), (2, .int w), (3, .long v)] (by decide) (Nat.le_of_ble_eq_true rfl) rfl ?_
  intro p e s m args below meth c C hr hlk hin
  refine v_aload_n C dX9_sum_0 rfl rfl ?_
  refine v_iload_n C dX9_sum_1 rfl rfl ?_
  refine v_ci (r_V C (m_noArray_ok l D B K _ r f0 A L I na hM hI18 (by omega) a ha) dX9_sum_2 hM.1 rfl g_ml_X9_171 g_im_yX9_noArray g_se_X9_yX9_noArray_yX9_noArray g_in_X9 g_cd_yX9_noArray (rn_le (by decide)) (by decide) rfl rfl hdn_yX9_noArray (Nat.le_of_ble_eq_true rfl) ⟨Nat.le_of_ble_eq_true rfl, Nat.le_of_ble_eq_true rfl⟩) (fun r_2 f_2 hp_2 => ?_)
  obtain ⟨rfl, hf9⟩ := hp_2
  have hf9 := hf9.symm
  subst hf9
  refine v_if_eq (tgt := 12) C dX9_sum_5 (by decide) (fun _ => ?_) (fun c_5 => absurd c_5 (by decide))
  refine v_aload_n C dX9_sum_12 rfl rfl ?_
  refine v_get C dX9_sum_13 19 hM.1 rfl in_X9 (by decide) g_fl_X9_48 (fun _ h9 => h9) rfl ?_
  refine v_iload_n C dX9_sum_16 rfl rfl ?_
  refine m_ild C hM dX9_sum_17 19 a (by decide) (show _ < 6 by omega) rfl ?_
  refine v_ri hab ?_
  refine v_istore C dX9_sum_18 (by decide) rfl ?_
  refine v_iload_n C dX9_sum_20 rfl rfl ?_
  refine v_i2l C dX9_sum_21 ?_
  refine v_lconst (v := 0) C dX9_sum_22 (by decide) ?_
  refine v_aload_n C dX9_sum_23 rfl rfl ?_
  refine v_get C dX9_sum_24 3 hM.1 rfl in_X9 (by decide) g_fl_X9_16 (fun _ h9 => h9) rfl ?_
  refine v_iload C dX9_sum_27 rfl ?_
  refine m_ild C hM dX9_sum_29 3 i (by decide) (show _ < 40 by omega) rfl ?_
  refine v_ri hrow.1 ?_
  refine v_iconst (v := 1) C dX9_sum_30 (by decide) ?_
  refine v_isub C dX9_sum_31 ?_
  refine v_i2l C dX9_sum_32 ?_
  refine v_ci (r_S C (m_in l D B K _ _ _ _) dX9_sum_33 g_ml_X9_58 g_st_yX9_in g_in_X9 g_cd_yX9_in (rn_le (by decide)) (by decide) rfl hdn_yX9_in (Nat.le_of_ble_eq_true rfl) ⟨Nat.le_of_ble_eq_true rfl, Nat.le_of_ble_eq_true rfl⟩) (fun r_33 f_33 hp_33 => ?_)
  obtain ⟨rfl, hf9⟩ := hp_33
  have hf9 := hf9.symm
  subst hf9
  refine v_if_ne (tgt := 43) C dX9_sum_36 (by decide) (fun c_36 => absurd hw c_36) (fun c_36 => ?_)
  refine v_ldc2 C dX9_sum_39 g_kl_X9_178 ?_
  exact v_lret C hr hlk dX9_sum_42 (Nat.le_refl _) (Nat.le_refl _) ⟨rfl, rfl⟩

set_option maxHeartbeats 4000000 in
set_option maxRecDepth 100000 in
theorem L_sum9 {p : Program} {l : Launch} {e : Env} {s : State} {m : MethodId} {args : Array Value} {below : List Frame} {meth : Method} {c : Code} {D : va_G} {B : Nat} {K : Nat → ClassId} (C : Cx p s m args c cX9_sum 9 yX9_sum.cls D B K) (hr : meth.sig.returnType = (some .long)) (hlk : meth.locks = false) (r : Nat → Nat) (f0 : St) (A : Nat → Nat → Int32) (L : Nat → Nat → Int64) (I : Nat → Int32) (n : Nat) (hn40 : n ≤ 40) (na : Nat) (hna : na ≤ 6) (a i : Nat) (ha : a < na) (hi : i < n) (hab : A 19 a = nI i) (sg : Nat → Sg) (l9 : List Ent) (hrow : RowM A L sg l9 i n) (hti : 0 < prodE sg l9 → ∀ e ∈ l9, e.2.1 = true → cntS (sg e.1) < 9223372036854775808) (hz : L 4 i = sat (prodE sg l9)) (hP : prodE sg l9 ≤ 400) (w : Nat) (v : Int64) (hw : w < l9.length) : ∀ (n9 k : Nat) (f : St) (gs : Nat → Int64), k ≤ prodE sg l9 → prodE sg l9 + 1 ≤ k + n9 → MC K r f0 f A (up1 L 12 gs) I → V p l e (RM 4 0 0) s m args below meth c D B 9 (MQ below (Ql_ D B (fun x f9 => x = smS sg l9 w v (fun q => A 20 (400 * a + q)) (prodE sg l9) ∧ ∃ g, MC K r f0 f9 A (up1 L 12 g) I)) args s 0 0 (AB B)) 0 0 f (lof [(0, .ref (r 0)), (1, .int (nI a)), (2, .int (nI w)), (3, .long v), (5, .int (nI i)), (6, .long (smS sg l9 w v (fun q => A 20 (400 * a + q)) k)), (8, .int (nI k))]) 49 [] := by
  have hl8 := hrow.2.2.1
  intro n9
  induction n9 with
  | zero => intro k f gs h1 h2; omega
  | succ n9 ih =>
    intro k f gs hk hin hM
    by_cases hlt : k < prodE sg l9
    · have hvv : filG sg l9 0 k gs w = vE sg l9 k w := by unfold filG; rw [if_pos ⟨Nat.zero_le _, by omega⟩, Nat.sub_zero]
      by_cases hv : vE sg l9 k w = v
      · refine v_iload C dX9_sum_49 rfl ?_
        refine v_i2l C dX9_sum_51 ?_
        refine v_rl (nI_l (by omega)) ?_
        refine v_aload_n C dX9_sum_52 rfl rfl ?_
        refine v_get C dX9_sum_53 4 hM.1 rfl in_X9 (by decide) g_fl_X9_19 (fun _ h9 => h9) rfl ?_
        refine v_iload C dX9_sum_56 rfl ?_
        refine m_lld C hM dX9_sum_58 4 i (by decide) (show _ < 40 by omega) rfl ?_
        refine v_rl (hz.trans (sat_lt (by omega))) ?_
        refine v_lc_ge (tgt := 116) C dX9_sum_59 dX9_sum_60 (by decide) (fun c_59 => absurd c_59 (fun h9 => by have h8 := (pk_lLE (by omega) (by omega)).mp h9; omega)) (fun c_59 => ?_)
        refine v_aload_n C dX9_sum_63 rfl rfl ?_
        refine v_iload C dX9_sum_64 rfl ?_
        refine v_iload C dX9_sum_66 rfl ?_
        refine v_i2l C dX9_sum_68 ?_
        refine v_rl (nI_l (by omega)) ?_
        refine v_aload_n C dX9_sum_69 rfl rfl ?_
        refine v_get C dX9_sum_70 12 hM.1 rfl in_X9 (by decide) g_fl_X9_45 (fun _ h9 => h9) rfl ?_
        refine v_cv (r_V C (m_lay12 l D B K _ r f0 A (up1 L 12 gs) I sg l9 i n hM hrow (by omega) hn40 (hti (by omega)) k hlt (by omega)) dX9_sum_73 hM.1 rfl g_ml_X9_156 g_im_yX9_lay g_se_X9_yX9_lay_yX9_lay g_in_X9 g_cd_yX9_lay (rn_le (by decide)) (by decide) rfl rfl hdn_yX9_lay (Nat.le_of_ble_eq_true rfl) ⟨Nat.le_of_ble_eq_true rfl, Nat.le_of_ble_eq_true rfl⟩) (fun f_73 hp_73 => ?_)
        have hM := hp_73
        rw [up1_self, up1_up1] at hM
        refine v_lload C dX9_sum_76 rfl ?_
        refine v_aload_n C dX9_sum_78 rfl rfl ?_
        refine v_get C dX9_sum_79 12 hM.1 rfl in_X9 (by decide) g_fl_X9_45 (fun _ h9 => h9) rfl ?_
        refine v_iload_n C dX9_sum_82 rfl rfl ?_
        refine m_lld C hM dX9_sum_83 12 w (by decide) (show _ < 8 by omega) rfl ?_
        refine v_rl hvv ?_
        refine v_lload_n C dX9_sum_84 rfl rfl ?_
        refine v_lc_ne (tgt := 106) C dX9_sum_85 dX9_sum_86 (by decide) (fun c_85 => absurd hv c_85) (fun c_85 => ?_)
        refine v_aload_n C dX9_sum_89 rfl rfl ?_
        refine v_get C dX9_sum_90 20 hM.1 rfl in_X9 (by decide) g_fl_X9_51 (fun _ h9 => h9) rfl ?_
        refine v_sipush (v := 400) C dX9_sum_93 (by decide) ?_
        refine v_iload_n C dX9_sum_96 rfl rfl ?_
        refine v_imul C dX9_sum_97 ?_
        refine v_iload C dX9_sum_98 rfl ?_
        refine v_iadd C dX9_sum_100 ?_
        refine m_ild C hM dX9_sum_101 20 ((400 * a) + k) (by decide) (show _ < 2400 by omega) (by simp only [← nI_add, ← pk_mul]; rfl) ?_
        refine v_i2l C dX9_sum_102 ?_
        refine v_goto (tgt := 107) C dX9_sum_103 (by decide) ?_
        refine v_ladd C dX9_sum_107 ?_
        refine v_rl (show _ = smS sg l9 w v (fun q => A 20 (400 * a + q)) (k + 1) by rw [show smS sg l9 w v (fun q => A 20 (400 * a + q)) (k + 1) = smS sg l9 w v (fun q => A 20 (400 * a + q)) k + ((fun q => A 20 (400 * a + q)) k).toInt64 from if_pos hv]) ?_
        refine v_lstore C dX9_sum_108 (by decide) rfl ?_
        refine v_iinc (y := 1) C dX9_sum_110 rfl (by decide) (by decide) rfl ?_
        refine v_goto (tgt := 49) C dX9_sum_113 (by decide) ?_
        refine v_loc [(0, .ref (r 0)), (1, .int (nI a)), (2, .int (nI w)), (3, .long v), (5, .int (nI i)), (6, .long (smS sg l9 w v (fun q => A 20 (400 * a + q)) (k + 1))), (8, .int (nI (k + 1)))] (lsub_c rfl (lsub_c rfl (lsub_c rfl (lsub_c rfl (lsub_c rfl (lsub_c rfl (lsub_c (by rw [nI_succ]; rfl) lsub_n))))))) ?_
        exact ih (k + 1) _ _ hlt (by omega) hM
      · refine v_iload C dX9_sum_49 rfl ?_
        refine v_i2l C dX9_sum_51 ?_
        refine v_rl (nI_l (by omega)) ?_
        refine v_aload_n C dX9_sum_52 rfl rfl ?_
        refine v_get C dX9_sum_53 4 hM.1 rfl in_X9 (by decide) g_fl_X9_19 (fun _ h9 => h9) rfl ?_
        refine v_iload C dX9_sum_56 rfl ?_
        refine m_lld C hM dX9_sum_58 4 i (by decide) (show _ < 40 by omega) rfl ?_
        refine v_rl (hz.trans (sat_lt (by omega))) ?_
        refine v_lc_ge (tgt := 116) C dX9_sum_59 dX9_sum_60 (by decide) (fun c_59 => absurd c_59 (fun h9 => by have h8 := (pk_lLE (by omega) (by omega)).mp h9; omega)) (fun c_59 => ?_)
        refine v_aload_n C dX9_sum_63 rfl rfl ?_
        refine v_iload C dX9_sum_64 rfl ?_
        refine v_iload C dX9_sum_66 rfl ?_
        refine v_i2l C dX9_sum_68 ?_
        refine v_rl (nI_l (by omega)) ?_
        refine v_aload_n C dX9_sum_69 rfl rfl ?_
        refine v_get C dX9_sum_70 12 hM.1 rfl in_X9 (by decide) g_fl_X9_45 (fun _ h9 => h9) rfl ?_
        refine v_cv (r_V C (m_lay12 l D B K _ r f0 A (up1 L 12 gs) I sg l9 i n hM hrow (by omega) hn40 (hti (by omega)) k hlt (by omega)) dX9_sum_73 hM.1 rfl g_ml_X9_156 g_im_yX9_lay g_se_X9_yX9_lay_yX9_lay g_in_X9 g_cd_yX9_lay (rn_le (by decide)) (by decide) rfl rfl hdn_yX9_lay (Nat.le_of_ble_eq_true rfl) ⟨Nat.le_of_ble_eq_true rfl, Nat.le_of_ble_eq_true rfl⟩) (fun f_73 hp_73 => ?_)
        have hM := hp_73
        rw [up1_self, up1_up1] at hM
        refine v_lload C dX9_sum_76 rfl ?_
        refine v_aload_n C dX9_sum_78 rfl rfl ?_
        refine v_get C dX9_sum_79 12 hM.1 rfl in_X9 (by decide) g_fl_X9_45 (fun _ h9 => h9) rfl ?_
        refine v_iload_n C dX9_sum_82 rfl rfl ?_
        refine m_lld C hM dX9_sum_83 12 w (by decide) (show _ < 8 by omega) rfl ?_
        refine v_rl hvv ?_
        refine v_lload_n C dX9_sum_84 rfl rfl ?_
        refine v_lc_ne (tgt := 106) C dX9_sum_85 dX9_sum_86 (by decide) (fun c_85 => ?_) (fun c_85 => absurd c_85 hv)
        refine v_lconst (v := 0) C dX9_sum_106 (by decide) ?_
        refine v_ladd C dX9_sum_107 ?_
        refine v_rl (show _ = smS sg l9 w v (fun q => A 20 (400 * a + q)) (k + 1) by rw [show smS sg l9 w v (fun q => A 20 (400 * a + q)) (k + 1) = smS sg l9 w v (fun q => A 20 (400 * a + q)) k from if_neg hv]; exact Int64.add_zero _) ?_
        refine v_lstore C dX9_sum_108 (by decide) rfl ?_
        refine v_iinc (y := 1) C dX9_sum_110 rfl (by decide) (by decide) rfl ?_
        refine v_goto (tgt := 49) C dX9_sum_113 (by decide) ?_
        refine v_loc [(0, .ref (r 0)), (1, .int (nI a)), (2, .int (nI w)), (3, .long v), (5, .int (nI i)), (6, .long (smS sg l9 w v (fun q => A 20 (400 * a + q)) (k + 1))), (8, .int (nI (k + 1)))] (lsub_c rfl (lsub_c rfl (lsub_c rfl (lsub_c rfl (lsub_c rfl (lsub_c rfl (lsub_c (by rw [nI_succ]; rfl) lsub_n))))))) ?_
        exact ih (k + 1) _ _ hlt (by omega) hM
    · refine v_iload C dX9_sum_49 rfl ?_
      refine v_i2l C dX9_sum_51 ?_
      refine v_rl (nI_l (by omega)) ?_
      refine v_aload_n C dX9_sum_52 rfl rfl ?_
      refine v_get C dX9_sum_53 4 hM.1 rfl in_X9 (by decide) g_fl_X9_19 (fun _ h9 => h9) rfl ?_
      refine v_iload C dX9_sum_56 rfl ?_
      refine m_lld C hM dX9_sum_58 4 i (by decide) (show _ < 40 by omega) rfl ?_
      refine v_rl (hz.trans (sat_lt (by omega))) ?_
      refine v_lc_ge (tgt := 116) C dX9_sum_59 dX9_sum_60 (by decide) (fun c_59 => ?_) (fun c_59 => absurd ((pk_lLE (by omega) (by omega)).mpr (by omega)) c_59)
      refine v_lload C dX9_sum_116 rfl ?_
      exact v_lret C hr hlk dX9_sum_118 (Nat.le_refl _) (Nat.le_refl _) ⟨by rw [show k = prodE sg l9 by omega], gs, hM⟩

set_option maxHeartbeats 4000000 in
set_option maxRecDepth 100000 in
theorem m_sum_ok (l : Launch) (D : va_G) (B : Nat) (K : Nat → ClassId) (f : St) (r : Nat → Nat) (f0 : St) (A : Nat → Nat → Int32) (L : Nat → Nat → Int64) (I : Nat → Int32) (hM : MC K r f0 f A L I) (n : Nat) (hn40 : n ≤ 40) (na : Nat) (hna : na ≤ 6) (a i : Nat) (ha : a < na) (hi : i < n) (hab : A 19 a = nI i) (sg : Nat → Sg) (l9 : List Ent) (hrow : RowM A L sg l9 i n) (hI18 : I 18 = nI na) (hti : 0 < prodE sg l9 → ∀ e ∈ l9, e.2.1 = true → cntS (sg e.1) < 9223372036854775808) (hz : L 4 i = sat (prodE sg l9)) (hP : prodE sg l9 ≤ 400) (w : Nat) (v : Int64) (hw : w < l9.length) : Kc l D B K yX9_sum cX9_sum 9 ((some .long)) 4 0 0 [.ref (r 0), .int (nI a), .int (nI w), .long v] f (Ql_ D B (fun x f9 => x = smS sg l9 w v (fun q => A 20 (400 * a + q)) (prodE sg l9) ∧ ∃ g, MC K r f0 f9 A (up1 L 12 g) I)) := by
  refine v_met [(0, .ref (r 0)), (1, .int (nI a)), (2, .int (nI w)), (3, .long v)] (by decide) (Nat.le_of_ble_eq_true rfl) rfl ?_
  intro p e s m args below meth c C hr hlk hin
  have hl8 := hrow.2.2.1
  refine v_aload_n C dX9_sum_0 rfl rfl ?_
  refine v_iload_n C dX9_sum_1 rfl rfl ?_
  refine v_ci (r_V C (m_noArray_ok l D B K _ r f0 A L I na hM hI18 (by omega) a ha) dX9_sum_2 hM.1 rfl g_ml_X9_171 g_im_yX9_noArray g_se_X9_yX9_noArray_yX9_noArray g_in_X9 g_cd_yX9_noArray (rn_le (by decide)) (by decide) rfl rfl hdn_yX9_noArray (Nat.le_of_ble_eq_true rfl) ⟨Nat.le_of_ble_eq_true rfl, Nat.le_of_ble_eq_true rfl⟩) (fun r_2 f_2 hp_2 => ?_)
  obtain ⟨rfl, hf9⟩ := hp_2
  have hf9 := hf9.symm
  subst hf9
  refine v_if_eq (tgt := 12) C dX9_sum_5 (by decide) (fun _ => ?_) (fun c_5 => absurd c_5 (by decide))
  refine v_aload_n C dX9_sum_12 rfl rfl ?_
  refine v_get C dX9_sum_13 19 hM.1 rfl in_X9 (by decide) g_fl_X9_48 (fun _ h9 => h9) rfl ?_
  refine v_iload_n C dX9_sum_16 rfl rfl ?_
  refine m_ild C hM dX9_sum_17 19 a (by decide) (show _ < 6 by omega) rfl ?_
  refine v_ri hab ?_
  refine v_istore C dX9_sum_18 (by decide) rfl ?_
  refine v_iload_n C dX9_sum_20 rfl rfl ?_
  refine v_i2l C dX9_sum_21 ?_
  refine v_lconst (v := 0) C dX9_sum_22 (by decide) ?_
  refine v_aload_n C dX9_sum_23 rfl rfl ?_
  refine v_get C dX9_sum_24 3 hM.1 rfl in_X9 (by decide) g_fl_X9_16 (fun _ h9 => h9) rfl ?_
  refine v_iload C dX9_sum_27 rfl ?_
  refine m_ild C hM dX9_sum_29 3 i (by decide) (show _ < 40 by omega) rfl ?_
  refine v_ri hrow.1 ?_
  refine v_iconst (v := 1) C dX9_sum_30 (by decide) ?_
  refine v_isub C dX9_sum_31 ?_
  refine v_i2l C dX9_sum_32 ?_
  refine v_ci (r_S C (m_in l D B K _ _ _ _) dX9_sum_33 g_ml_X9_58 g_st_yX9_in g_in_X9 g_cd_yX9_in (rn_le (by decide)) (by decide) rfl hdn_yX9_in (Nat.le_of_ble_eq_true rfl) ⟨Nat.le_of_ble_eq_true rfl, Nat.le_of_ble_eq_true rfl⟩) (fun r_33 f_33 hp_33 => ?_)
  obtain ⟨rfl, hf9⟩ := hp_33
  have hf9 := hf9.symm
  subst hf9
  refine v_if_ne (tgt := 43) C dX9_sum_36 (by decide) (fun c_36 => ?_) (fun c_36 => absurd c_36 (nr_in hw (by omega)))
  refine v_lconst (v := 0) C dX9_sum_43 (by decide) ?_
  refine v_lstore C dX9_sum_44 (by decide) rfl ?_
  refine v_iconst (v := 0) C dX9_sum_46 (by decide) ?_
  refine v_istore C dX9_sum_47 (by decide) rfl ?_
  refine v_loc [(0, .ref (r 0)), (1, .int (nI a)), (2, .int (nI w)), (3, .long v), (5, .int (nI i)), (6, .long (smS sg l9 w v (fun q => A 20 (400 * a + q)) 0)), (8, .int (nI 0))] (lsub_c rfl (lsub_c rfl (lsub_c rfl (lsub_c rfl (lsub_c rfl (lsub_c rfl (lsub_c rfl lsub_n))))))) ?_
  exact L_sum9 C hr hlk r f0 A L I n hn40 na hna a i ha hi hab sg l9 hrow hti hz hP w v hw (prodE sg l9 + 1) 0 f (L 12) (Nat.zero_le _) (by omega) (by rw [up1_id]; exact hM)

set_option maxHeartbeats 4000000 in
set_option maxRecDepth 100000 in
theorem m_over_bad (l : Launch) (D : va_G) (B : Nat) (K : Nat → ClassId) (f : St) (r : Nat → Nat) (f0 : St) (A : Nat → Nat → Int32) (L : Nat → Nat → Int64) (I : Nat → Int32) (hM : MC K r f0 f A L I) (na : Nat) (hI18 : I 18 = nI na) (hna : na ≤ 6) (x : Int32) (hx : x < 0 ∨ nI na ≤ x) : Kc l D B K yX9_over cX9_over 2 ((some .int)) 4 0 0 [.ref (r 0), .int x] f (Qi_ D B (fun x f9 => x = -101 ∧ f9 = f)) := by
  refine v_met [(0, .ref (r 0)), (1, .int x)] (by decide) (Nat.le_of_ble_eq_true rfl) rfl ?_
  intro p e s m args below meth c C hr hlk hin
  refine v_aload_n C dX9_over_0 rfl rfl ?_
  refine v_iload_n C dX9_over_1 rfl rfl ?_
  refine v_ci (r_V C (m_noArray_bad l D B K _ r f0 A L I na hM hI18 (by omega) x hx) dX9_over_2 hM.1 rfl g_ml_X9_171 g_im_yX9_noArray g_se_X9_yX9_noArray_yX9_noArray g_in_X9 g_cd_yX9_noArray (rn_le (by decide)) (by decide) rfl rfl hdn_yX9_noArray (Nat.le_of_ble_eq_true rfl) ⟨Nat.le_of_ble_eq_true rfl, Nat.le_of_ble_eq_true rfl⟩) (fun r_2 f_2 hp_2 => ?_)
  obtain ⟨rfl, hf9⟩ := hp_2
  have hf9 := hf9.symm
  subst hf9
  refine v_if_eq (tgt := 13) C dX9_over_5 (by decide) (fun c_5 => absurd c_5 (by decide)) (fun _ => ?_)
  refine v_bipush (v := (-101)) C dX9_over_8 (by decide) ?_
  refine v_goto (tgt := 19) C dX9_over_10 (by decide) ?_
  exact v_iret C hr hlk dX9_over_19 (Nat.le_refl _) (Nat.le_refl _) ⟨rfl, rfl⟩

set_option maxHeartbeats 4000000 in
set_option maxRecDepth 100000 in
theorem m_over_ok (l : Launch) (D : va_G) (B : Nat) (K : Nat → ClassId) (f : St) (r : Nat → Nat) (f0 : St) (A : Nat → Nat → Int32) (L : Nat → Nat → Int64) (I : Nat → Int32) (hM : MC K r f0 f A L I) (na : Nat) (hI18 : I 18 = nI na) (hna : na ≤ 6) (a : Nat) (ha : a < na) : Kc l D B K yX9_over cX9_over 2 ((some .int)) 4 0 0 [.ref (r 0), .int (nI a)] f (Qi_ D B (fun x f9 => x = A 19 a ∧ f9 = f)) := by
  refine v_met [(0, .ref (r 0)), (1, .int (nI a))] (by decide) (Nat.le_of_ble_eq_true rfl) rfl ?_
  intro p e s m args below meth c C hr hlk hin
  refine v_aload_n C dX9_over_0 rfl rfl ?_
  refine v_iload_n C dX9_over_1 rfl rfl ?_
  refine v_ci (r_V C (m_noArray_ok l D B K _ r f0 A L I na hM hI18 (by omega) a ha) dX9_over_2 hM.1 rfl g_ml_X9_171 g_im_yX9_noArray g_se_X9_yX9_noArray_yX9_noArray g_in_X9 g_cd_yX9_noArray (rn_le (by decide)) (by decide) rfl rfl hdn_yX9_noArray (Nat.le_of_ble_eq_true rfl) ⟨Nat.le_of_ble_eq_true rfl, Nat.le_of_ble_eq_true rfl⟩) (fun r_2 f_2 hp_2 => ?_)
  obtain ⟨rfl, hf9⟩ := hp_2
  have hf9 := hf9.symm
  subst hf9
  refine v_if_eq (tgt := 13) C dX9_over_5 (by decide) (fun _ => ?_) (fun c_5 => absurd c_5 (by decide))
  refine v_aload_n C dX9_over_13 rfl rfl ?_
  refine v_get C dX9_over_14 19 hM.1 rfl in_X9 (by decide) g_fl_X9_48 (fun _ h9 => h9) rfl ?_
  refine v_iload_n C dX9_over_17 rfl rfl ?_
  refine m_ild C hM dX9_over_18 19 a (by decide) (show _ < 6 by omega) rfl ?_
  exact v_iret C hr hlk dX9_over_19 (Nat.le_refl _) (Nat.le_refl _) ⟨rfl, rfl⟩

set_option maxHeartbeats 4000000 in
set_option maxRecDepth 100000 in
theorem L_count9 {p : Program} {l : Launch} {e : Env} {s : State} {m : MethodId} {args : Array Value} {below : List Frame} {meth : Method} {c : Code} {D : va_G} {B : Nat} {K : Nat → ClassId} {Q : State → Prop} (C : Cx p s m args c cX9_count 4 yX9_count.cls D B K) (f : St) (r : Nat → Nat) (f0 : St) (A : Nat → Nat → Int32) (L : Nat → Nat → Int64) (I : Nat → Int32) (hM : MC K r f0 f A L I) (na : Nat) (w : Int32) (ps bs : Nat → Nat) (hI18 : I 18 = nI na) (hna : na ≤ 6) (hps : ∀ a, a < na → A 19 a = nI (bs a) ∧ bs a < 40 ∧ L 4 (bs a) = sat (ps a) ∧ ps a ≤ 400) (kx : V p l e (RM 4 0 0) s m args below meth c D B 4 Q 0 0 f (lof [(0, .ref (r 0)), (1, .int w), (2, .int (nI (suN ps na))), (3, .int (nI na))]) 33 []) : ∀ (n9 k : Nat), k ≤ na → na + 1 ≤ k + n9 → V p l e (RM 4 0 0) s m args below meth c D B 4 Q 0 0 f (lof [(0, .ref (r 0)), (1, .int w), (2, .int (nI (suN ps k))), (3, .int (nI k))]) 4 [] := by
  intro n9
  induction n9 with
  | zero => intro k h1 h2; omega
  | succ n9 ih =>
    intro k hk hin
    by_cases hlt : k < na
    · obtain ⟨p1, p2, p3, p4⟩ := hps k hlt
      refine v_iload_n C dX9_count_4 rfl rfl ?_
      refine v_aload_n C dX9_count_5 rfl rfl ?_
      refine v_get C dX9_count_6 18 hM.1 rfl in_X9 (by decide) g_fl_X9_62 (fun _ h9 => h9) rfl ?_
      refine v_ri hI18 ?_
      refine v_icmp_ge (tgt := 33) C dX9_count_9 (by decide) (fun c_9 => absurd c_9 (nI_ge hlt (by omega))) (fun c_9 => ?_)
      refine v_iload_n C dX9_count_12 rfl rfl ?_
      refine v_aload_n C dX9_count_13 rfl rfl ?_
      refine v_get C dX9_count_14 4 hM.1 rfl in_X9 (by decide) g_fl_X9_19 (fun _ h9 => h9) rfl ?_
      refine v_aload_n C dX9_count_17 rfl rfl ?_
      refine v_get C dX9_count_18 19 hM.1 rfl in_X9 (by decide) g_fl_X9_48 (fun _ h9 => h9) rfl ?_
      refine v_iload_n C dX9_count_21 rfl rfl ?_
      refine m_ild C hM dX9_count_22 19 k (by decide) (show _ < 6 by omega) rfl ?_
      refine v_ri p1 ?_
      refine m_lld C hM dX9_count_23 4 (bs k) (by decide) (show _ < 40 by omega) rfl ?_
      refine v_rl (p3.trans (sat_lt (by omega))) ?_
      refine v_l2i C dX9_count_24 ?_
      refine v_ri (lN_i _) ?_
      refine v_iadd C dX9_count_25 ?_
      refine v_ri (nI_add _ _) ?_
      refine v_istore_n C dX9_count_26 rfl (by decide) rfl ?_
      refine v_iinc (y := 1) C dX9_count_27 rfl (by decide) (by decide) rfl ?_
      refine v_goto (tgt := 4) C dX9_count_30 (by decide) ?_
      refine v_loc [(0, .ref (r 0)), (1, .int w), (2, .int (nI (suN ps (k + 1)))), (3, .int (nI (k + 1)))] (lsub_c rfl (lsub_c rfl (lsub_c rfl (lsub_c (by rw [nI_succ]; rfl) lsub_n)))) ?_
      exact ih (k + 1) hlt (by omega)
    · have hkn : k = na := by omega
      subst hkn
      refine v_iload_n C dX9_count_4 rfl rfl ?_
      refine v_aload_n C dX9_count_5 rfl rfl ?_
      refine v_get C dX9_count_6 18 hM.1 rfl in_X9 (by decide) g_fl_X9_62 (fun _ h9 => h9) rfl ?_
      refine v_ri hI18 ?_
      refine v_icmp_ge (tgt := 33) C dX9_count_9 (by decide) (fun c_9 => ?_) (fun c_9 => absurd (nI_le (by omega) (by omega)) c_9)
      exact kx

set_option maxHeartbeats 4000000 in
set_option maxRecDepth 100000 in
theorem m_count_0 (l : Launch) (D : va_G) (B : Nat) (K : Nat → ClassId) (f : St) (r : Nat → Nat) (f0 : St) (A : Nat → Nat → Int32) (L : Nat → Nat → Int64) (I : Nat → Int32) (hM : MC K r f0 f A L I) (na : Nat) (ps bs : Nat → Nat) (hI18 : I 18 = nI na) (hna : na ≤ 6) (hps : ∀ a, a < na → A 19 a = nI (bs a) ∧ bs a < 40 ∧ L 4 (bs a) = sat (ps a) ∧ ps a ≤ 400) : Kc l D B K yX9_count cX9_count 4 ((some .int)) 4 0 0 [.ref (r 0), .int 0] f (Qi_ D B (fun x f9 => x = I 0 ∧ f9 = f)) := by
  refine v_met [(0, .ref (r 0)), (1, .int 0)] (by decide) (Nat.le_of_ble_eq_true rfl) rfl ?_
  intro p e s m args below meth c C hr hlk hin
  refine v_iconst (v := 0) C dX9_count_0 (by decide) ?_
  refine v_istore_n C dX9_count_1 rfl (by decide) rfl ?_
  refine v_iconst (v := 0) C dX9_count_2 (by decide) ?_
  refine v_istore_n C dX9_count_3 rfl (by decide) rfl ?_
  refine v_loc [(0, .ref (r 0)), (1, .int 0), (2, .int (nI (suN ps 0))), (3, .int (nI 0))] (lsub_c rfl (lsub_c rfl (lsub_c rfl (lsub_c rfl lsub_n)))) ?_
  refine L_count9 C f r f0 A L I hM na 0 ps bs hI18 hna hps ?_ (na + 1) 0 (Nat.zero_le _) (by omega)
  refine v_iload_n C dX9_count_33 rfl rfl ?_
  refine v_tabIn (tgt := 64) (off := 30) C dX9_count_34 (by decide) (by decide) (by decide) (by decide) ?_
  refine v_aload_n C dX9_count_64 rfl rfl ?_
  refine v_get C dX9_count_65 0 hM.1 rfl in_X9 (by decide) g_fl_X9_54 (fun _ h9 => h9) rfl ?_
  exact v_iret C hr hlk dX9_count_68 (Nat.le_refl _) (Nat.le_refl _) ⟨rfl, rfl⟩

set_option maxHeartbeats 4000000 in
set_option maxRecDepth 100000 in
theorem m_count_1 (l : Launch) (D : va_G) (B : Nat) (K : Nat → ClassId) (f : St) (r : Nat → Nat) (f0 : St) (A : Nat → Nat → Int32) (L : Nat → Nat → Int64) (I : Nat → Int32) (hM : MC K r f0 f A L I) (na : Nat) (ps bs : Nat → Nat) (hI18 : I 18 = nI na) (hna : na ≤ 6) (hps : ∀ a, a < na → A 19 a = nI (bs a) ∧ bs a < 40 ∧ L 4 (bs a) = sat (ps a) ∧ ps a ≤ 400) : Kc l D B K yX9_count cX9_count 4 ((some .int)) 4 0 0 [.ref (r 0), .int 1] f (Qi_ D B (fun x f9 => x = I 18 ∧ f9 = f)) := by
  refine v_met [(0, .ref (r 0)), (1, .int 1)] (by decide) (Nat.le_of_ble_eq_true rfl) rfl ?_
  intro p e s m args below meth c C hr hlk hin
  refine v_iconst (v := 0) C dX9_count_0 (by decide) ?_
  refine v_istore_n C dX9_count_1 rfl (by decide) rfl ?_
  refine v_iconst (v := 0) C dX9_count_2 (by decide) ?_
  refine v_istore_n C dX9_count_3 rfl (by decide) rfl ?_
  refine v_loc [(0, .ref (r 0)), (1, .int 1), (2, .int (nI (suN ps 0))), (3, .int (nI 0))] (lsub_c rfl (lsub_c rfl (lsub_c rfl (lsub_c rfl lsub_n)))) ?_
  refine L_count9 C f r f0 A L I hM na 1 ps bs hI18 hna hps ?_ (na + 1) 0 (Nat.zero_le _) (by omega)
  refine v_iload_n C dX9_count_33 rfl rfl ?_
  refine v_tabIn (tgt := 69) (off := 35) C dX9_count_34 (by decide) (by decide) (by decide) (by decide) ?_
  refine v_aload_n C dX9_count_69 rfl rfl ?_
  refine v_get C dX9_count_70 18 hM.1 rfl in_X9 (by decide) g_fl_X9_62 (fun _ h9 => h9) rfl ?_
  exact v_iret C hr hlk dX9_count_73 (Nat.le_refl _) (Nat.le_refl _) ⟨rfl, rfl⟩

set_option maxHeartbeats 4000000 in
set_option maxRecDepth 100000 in
theorem m_count_2 (l : Launch) (D : va_G) (B : Nat) (K : Nat → ClassId) (f : St) (r : Nat → Nat) (f0 : St) (A : Nat → Nat → Int32) (L : Nat → Nat → Int64) (I : Nat → Int32) (hM : MC K r f0 f A L I) (na : Nat) (ps bs : Nat → Nat) (hI18 : I 18 = nI na) (hna : na ≤ 6) (hps : ∀ a, a < na → A 19 a = nI (bs a) ∧ bs a < 40 ∧ L 4 (bs a) = sat (ps a) ∧ ps a ≤ 400) : Kc l D B K yX9_count cX9_count 4 ((some .int)) 4 0 0 [.ref (r 0), .int 2] f (Qi_ D B (fun x f9 => x = I 17 ∧ f9 = f)) := by
  refine v_met [(0, .ref (r 0)), (1, .int 2)] (by decide) (Nat.le_of_ble_eq_true rfl) rfl ?_
  intro p e s m args below meth c C hr hlk hin
  refine v_iconst (v := 0) C dX9_count_0 (by decide) ?_
  refine v_istore_n C dX9_count_1 rfl (by decide) rfl ?_
  refine v_iconst (v := 0) C dX9_count_2 (by decide) ?_
  refine v_istore_n C dX9_count_3 rfl (by decide) rfl ?_
  refine v_loc [(0, .ref (r 0)), (1, .int 2), (2, .int (nI (suN ps 0))), (3, .int (nI 0))] (lsub_c rfl (lsub_c rfl (lsub_c rfl (lsub_c rfl lsub_n)))) ?_
  refine L_count9 C f r f0 A L I hM na 2 ps bs hI18 hna hps ?_ (na + 1) 0 (Nat.zero_le _) (by omega)
  refine v_iload_n C dX9_count_33 rfl rfl ?_
  refine v_tabIn (tgt := 74) (off := 40) C dX9_count_34 (by decide) (by decide) (by decide) (by decide) ?_
  refine v_aload_n C dX9_count_74 rfl rfl ?_
  refine v_get C dX9_count_75 17 hM.1 rfl in_X9 (by decide) g_fl_X9_137 (fun _ h9 => h9) rfl ?_
  exact v_iret C hr hlk dX9_count_78 (Nat.le_refl _) (Nat.le_refl _) ⟨rfl, rfl⟩

set_option maxHeartbeats 4000000 in
set_option maxRecDepth 100000 in
theorem m_count_3 (l : Launch) (D : va_G) (B : Nat) (K : Nat → ClassId) (f : St) (r : Nat → Nat) (f0 : St) (A : Nat → Nat → Int32) (L : Nat → Nat → Int64) (I : Nat → Int32) (hM : MC K r f0 f A L I) (na : Nat) (ps bs : Nat → Nat) (hI18 : I 18 = nI na) (hna : na ≤ 6) (hps : ∀ a, a < na → A 19 a = nI (bs a) ∧ bs a < 40 ∧ L 4 (bs a) = sat (ps a) ∧ ps a ≤ 400) : Kc l D B K yX9_count cX9_count 4 ((some .int)) 4 0 0 [.ref (r 0), .int 3] f (Qi_ D B (fun x f9 => x = nI (suN ps na) ∧ f9 = f)) := by
  refine v_met [(0, .ref (r 0)), (1, .int 3)] (by decide) (Nat.le_of_ble_eq_true rfl) rfl ?_
  intro p e s m args below meth c C hr hlk hin
  refine v_iconst (v := 0) C dX9_count_0 (by decide) ?_
  refine v_istore_n C dX9_count_1 rfl (by decide) rfl ?_
  refine v_iconst (v := 0) C dX9_count_2 (by decide) ?_
  refine v_istore_n C dX9_count_3 rfl (by decide) rfl ?_
  refine v_loc [(0, .ref (r 0)), (1, .int 3), (2, .int (nI (suN ps 0))), (3, .int (nI 0))] (lsub_c rfl (lsub_c rfl (lsub_c rfl (lsub_c rfl lsub_n)))) ?_
  refine L_count9 C f r f0 A L I hM na 3 ps bs hI18 hna hps ?_ (na + 1) 0 (Nat.zero_le _) (by omega)
  refine v_iload_n C dX9_count_33 rfl rfl ?_
  refine v_tabIn (tgt := 79) (off := 45) C dX9_count_34 (by decide) (by decide) (by decide) (by decide) ?_
  refine v_iload_n C dX9_count_79 rfl rfl ?_
  exact v_iret C hr hlk dX9_count_80 (Nat.le_refl _) (Nat.le_refl _) ⟨rfl, rfl⟩

set_option maxHeartbeats 4000000 in
set_option maxRecDepth 100000 in
theorem m_count_out (l : Launch) (D : va_G) (B : Nat) (K : Nat → ClassId) (f : St) (r : Nat → Nat) (f0 : St) (A : Nat → Nat → Int32) (L : Nat → Nat → Int64) (I : Nat → Int32) (hM : MC K r f0 f A L I) (na : Nat) (w : Int32) (ps bs : Nat → Nat) (hI18 : I 18 = nI na) (hna : na ≤ 6) (hps : ∀ a, a < na → A 19 a = nI (bs a) ∧ bs a < 40 ∧ L 4 (bs a) = sat (ps a) ∧ ps a ≤ 400) (hw : w.toInt < 0 ∨ 3 < w.toInt) : Kc l D B K yX9_count cX9_count 4 ((some .int)) 4 0 0 [.ref (r 0), .int w] f (Qi_ D B (fun x f9 => x = -102 ∧ f9 = f)) := by
  refine v_met [(0, .ref (r 0)), (1, .int w)] (by decide) (Nat.le_of_ble_eq_true rfl) rfl ?_
  intro p e s m args below meth c C hr hlk hin
  refine v_iconst (v := 0) C dX9_count_0 (by decide) ?_
  refine v_istore_n C dX9_count_1 rfl (by decide) rfl ?_
  refine v_iconst (v := 0) C dX9_count_2 (by decide) ?_
  refine v_istore_n C dX9_count_3 rfl (by decide) rfl ?_
  refine v_loc [(0, .ref (r 0)), (1, .int w), (2, .int (nI (suN ps 0))), (3, .int (nI 0))] (lsub_c rfl (lsub_c rfl (lsub_c rfl (lsub_c rfl lsub_n)))) ?_
  refine L_count9 C f r f0 A L I hM na w ps bs hI18 hna hps ?_ (na + 1) 0 (Nat.zero_le _) (by omega)
  refine v_iload_n C dX9_count_33 rfl rfl ?_
  refine v_tabOut (tgt := 81) C dX9_count_34 hw (by decide) ?_
  refine v_bipush (v := (-102)) C dX9_count_81 (by decide) ?_
  exact v_iret C hr hlk dX9_count_83 (Nat.le_refl _) (Nat.le_refl _) ⟨rfl, rfl⟩

set_option maxHeartbeats 4000000 in
set_option maxRecDepth 100000 in
theorem L_clear9 {p : Program} {l : Launch} {e : Env} {s : State} {m : MethodId} {args : Array Value} {below : List Frame} {meth : Method} {c : Code} {D : va_G} {B : Nat} {K : Nat → ClassId} (C : Cx p s m args c cX9_clear 3 yX9_clear.cls D B K) (hr : meth.sig.returnType = (some .int)) (hlk : meth.locks = false) (r : Nat → Nat) (f0 : St) (A : Nat → Nat → Int32) (L : Nat → Nat → Int64) (I : Nat → Int32) (n0 : Int32) : ∀ (n9 k : Nat) (f : St) (g : Nat → Int64), k ≤ 8 → 9 ≤ k + n9 → (∀ j, j < k → g j = 0) → MC K r f0 f A (up1 L 11 g) I → V p l e (RM 4 0 0) s m args below meth c D B 3 (MQ below (Qi_ D B (fun x f9 => x = n0 ∧ ∃ g : Nat → Int64, (∀ j, j < 8 → g j = 0) ∧ MC K r f0 f9 A (up1 L 11 g) I)) args s 0 0 (AB B)) 0 0 f (lof [(0, .ref (r 0)), (1, .int n0), (2, .int (nI k))]) 27 [] := by
  intro n9
  induction n9 with
  | zero => intro k f g h1 h2; omega
  | succ n9 ih =>
    intro k f g hk hin hg hM
    by_cases hlt : k < 8
    · refine v_iload_n C dX9_clear_27 rfl rfl ?_
      refine v_bipush (v := 8) C dX9_clear_28 (by decide) ?_
      refine v_icmp_ge (tgt := 46) C dX9_clear_30 (by decide) (fun c_30 => absurd c_30 (nI_ge (b := 8) hlt (by omega))) (fun c_30 => ?_)
      refine v_aload_n C dX9_clear_33 rfl rfl ?_
      refine v_get C dX9_clear_34 11 hM.1 rfl in_X9 (by decide) g_fl_X9_42 (fun _ h9 => h9) rfl ?_
      refine v_iload_n C dX9_clear_37 rfl rfl ?_
      refine v_lconst (v := 0) C dX9_clear_38 (by decide) ?_
      refine m_lst C hM dX9_clear_39 11 k (by decide) (show _ < 8 by omega) rfl (fun f hM => ?_)
      refine v_iinc (y := 1) C dX9_clear_40 rfl (by decide) (by decide) rfl ?_
      refine v_goto (tgt := 27) C dX9_clear_43 (by decide) ?_
      refine v_loc [(0, .ref (r 0)), (1, .int n0), (2, .int (nI (k + 1)))] (lsub_c rfl (lsub_c rfl (lsub_c (by rw [nI_succ]; rfl) lsub_n))) ?_
      rw [up1_self, up1_up1] at hM
      refine ih (k + 1) f _ hlt (by omega) (fun j hj => ?_) hM
      by_cases e9 : j = k
      · subst e9; rw [pk_uLs]
      · rw [pk_uLn e9]; exact hg j (by omega)
    · refine v_iload_n C dX9_clear_27 rfl rfl ?_
      refine v_bipush (v := 8) C dX9_clear_28 (by decide) ?_
      refine v_icmp_ge (tgt := 46) C dX9_clear_30 (by decide) (fun c_30 => ?_) (fun c_30 => absurd (nI_le (a := 8) (by omega) (by omega)) c_30)
      refine v_iload_n C dX9_clear_46 rfl rfl ?_
      exact v_iret C hr hlk dX9_clear_47 (Nat.le_refl _) (Nat.le_refl _) ⟨rfl, g, fun j hj => hg j (by omega), hM⟩

set_option maxHeartbeats 4000000 in
set_option maxRecDepth 100000 in
theorem m_clear (l : Launch) (D : va_G) (B : Nat) (K : Nat → ClassId) (f : St) (r : Nat → Nat) (f0 : St) (A : Nat → Nat → Int32) (L : Nat → Nat → Int64) (I : Nat → Int32) (hM : MC K r f0 f A L I) : Kc l D B K yX9_clear cX9_clear 3 ((some .int)) 4 0 0 [.ref (r 0)] f (Qi_ D B (fun x f9 => x = I 0 ∧ ∃ g : Nat → Int64, (∀ j, j < 8 → g j = 0) ∧ MC K r f0 f9 A (up1 L 11 g) (up1 (up1 (up1 (up1 I 0 0) 18 0) 17 0) 13 0))) := by
  refine v_met [(0, .ref (r 0))] (by decide) (Nat.le_of_ble_eq_true rfl) rfl ?_
  intro p e s m args below meth c C hr hlk hin
  refine v_aload_n C dX9_clear_0 rfl rfl ?_
  refine v_get C dX9_clear_1 0 hM.1 rfl in_X9 (by decide) g_fl_X9_54 (fun _ h9 => h9) rfl ?_
  refine v_istore_n C dX9_clear_4 rfl (by decide) rfl ?_
  refine v_aload_n C dX9_clear_5 rfl rfl ?_
  refine v_iconst (v := 0) C dX9_clear_6 (by decide) ?_
  refine m_put C hM dX9_clear_7 0 (by decide) g_fl_X9_54 (fun f hM => ?_)
  refine v_aload_n C dX9_clear_10 rfl rfl ?_
  refine v_iconst (v := 0) C dX9_clear_11 (by decide) ?_
  refine m_put C hM dX9_clear_12 18 (by decide) g_fl_X9_62 (fun f hM => ?_)
  refine v_aload_n C dX9_clear_15 rfl rfl ?_
  refine v_iconst (v := 0) C dX9_clear_16 (by decide) ?_
  refine m_put C hM dX9_clear_17 17 (by decide) g_fl_X9_137 (fun f hM => ?_)
  refine v_aload_n C dX9_clear_20 rfl rfl ?_
  refine v_iconst (v := 0) C dX9_clear_21 (by decide) ?_
  refine m_putz C hM dX9_clear_22 rfl rfl g_fl_X9_124 (fun f hM => ?_)
  refine v_iconst (v := 0) C dX9_clear_25 (by decide) ?_
  refine v_istore_n C dX9_clear_26 rfl (by decide) rfl ?_
  refine v_loc [(0, .ref (r 0)), (1, .int (I 0)), (2, .int (nI 0))] (lsub_c rfl (lsub_c rfl (lsub_c rfl lsub_n))) ?_
  exact L_clear9 C hr hlk r f0 A L (up1 (up1 (up1 (up1 I 0 0) 18 0) 17 0) 13 0) (I 0) 9 0 f (L 11) (by omega) (by omega) (fun j hj => by omega) (by rw [up1_id]; exact hM)

