/-! ranges in the heap: fi holds their cells, which never change -/
def Imm (fi f : St) : Prop := ∀ a x, fi a = some x → f a = some x
theorem Imm.up {fi f : St} {a : Nat} {y : Option va_E} (h : Imm fi f) (ha : fi a = none) : Imm fi (va_up f a y) := fun b x hb => by
  by_cases e : b = a
  · subst e; rw [ha] at hb; cases hb
  · rw [va_up_ne _ _ e]; exact h b x hb
def RS (sg : Nat → Sg) (ra : Nat → Nat) (kd : Nat → Int32) (fi : St) (o : Nat) : Prop :=
  (∃ (fst lst : Int64) (sp : Int32), fi (ra o) = some (.inr (5, [.int (nI o), .int (kd o), .int 1, .long (sat (cntS (sg o))), .long fst, .long lst, .int sp])) ∧ rowOK (sg o) fst lst sp) ∨
  (∃ ar fs : Int32, fi (ra o) = some (.inr (4, [.int (nI o), .int (kd o), .int 1, .long (sat (cntS (sg o))), .int ar, .int fs])) ∧ namesOK (sg o) ar fs)
def RTi (K : Nat → ClassId) (sg : Nat → Sg) (E : Nat → List Ent) (ra : Nat → Nat) (kd : Nat → Int32) (fi : St) (i : Nat) : Prop :=
  (RS sg ra kd fi i ∧ E i = [(i, false, 0)]) ∨
  (∃ j, j < i ∧ fi (ra i) = some (.inr (0, [.int (nI i), .int (kd i), .int (nI (E j).length), .long (sat (prodE sg (E j))), .ref (ra j)])) ∧ prodE sg (E j) < 9223372036854775808 ∧ E i = (E j).map flipE) ∨
  (∃ (js : List Nat) (pa : Nat) (g : Nat → Option Nat), (∀ j ∈ js, j < i) ∧ js.length ≤ 3 ∧ fi (ra i) = some (.inr (1, [.int (nI i), .int (kd i), .int (nI (E i).length), .long (sat (prodE sg (E i))), .ref pa])) ∧ fi pa = some (.inl (K 3, js.length, .inr (.inr (.inr (.inr g))))) ∧ (∀ t j, js[t]? = some j → g t = some (ra j)) ∧ E i = (js.flatMap E).map deepE)
def RT (K : Nat → ClassId) (sg : Nat → Sg) (E : Nat → List Ent) (ra : Nat → Nat) (kd : Nat → Int32) (fi : St) (n : Nat) : Prop :=
  (∀ o, okS (sg o)) ∧ ∀ i, i < n → RTi K sg E ra kd fi i ∧ (E i).length ≤ 8 ∧ 1 ≤ (E i).length ∧ ∀ e ∈ E i, e.1 ≤ i ∧ RS sg ra kd fi e.1
theorem prod_1 (sg : Nat → Sg) (o : Nat) (b : Bool) (d : Nat) : prodE sg [(o, b, d)] = cntS (sg o) := Nat.mul_one _
theorem RT_hdr {K : Nat → ClassId} {sg : Nat → Sg} {E : Nat → List Ent} {ra : Nat → Nat} {kd : Nat → Int32} {fi : St} {i : Nat} (h : RTi K sg E ra kd fi i) : ∃ (ci : Nat) (fs : List Value), (ci = 0 ∨ ci = 1 ∨ ci = 4 ∨ ci = 5) ∧ fi (ra i) = some (.inr (ci, fs)) ∧ fs[0]? = some (.int (nI i)) ∧ fs[1]? = some (.int (kd i)) ∧ fs[2]? = some (.int (nI (E i).length)) ∧ fs[3]? = some (.long (sat (prodE sg (E i)))) := by
  rcases h with ⟨⟨fst, lst, sp, h1, _⟩ | ⟨ar, fs, h1, _⟩, hE⟩ | ⟨j, _, h1, _, hE⟩ | ⟨js, pa, g, _, _, h1, _⟩
  · exact ⟨5, _, by omega, h1, rfl, rfl, by rw [hE]; rfl, by rw [hE, prod_1]; rfl⟩
  · exact ⟨4, _, by omega, h1, rfl, rfl, by rw [hE]; rfl, by rw [hE, prod_1]; rfl⟩
  · exact ⟨0, _, by omega, h1, rfl, rfl, by rw [hE, List.length_map]; rfl, by rw [hE, prod_map sg _ (g := flipE) (fun _ => rfl)]; rfl⟩
  · exact ⟨1, _, by omega, h1, rfl, rfl, rfl, rfl⟩
def plR (sg : Nat → Sg) (h : Nat → Int64) (l : List Ent) (a : Nat) : Int64 := match missE sg h l a with
  | none => sat (idxE sg h l a 0)
  | some _ => -2
def plF (f : St) (mm : Nat) (t d : Int32) (o : Option (Nat × Ent)) : St := match o with
  | none => f
  | some q => va_up f mm (some (.inr (3, [.int (t + 1), .int (nI q.2.1), .int (nI q.1), .int (d + nI q.2.2.2)])))
theorem look_eq {h : Nat → Int64} {a : Nat} (ha : a < 8) : lookC h (nI a) = h a := by
  unfold lookC
  rw [if_neg (nI_pos (by omega)), if_neg (show ¬ (8 : Int32) ≤ nI a from nI_ge (b := 8) ha (by omega)), nI_clamp (by omega)]
def PLk (l : Launch) (D : va_G) (B : Nat) (K : Nat → ClassId) (sg : Nat → Sg) (E : Nat → List Ent) (ra : Nat → Nat) (fi : St) (i : Nat) : Prop :=
  ∀ (f : St) (hh ha mm a : Nat) (h : Nat → Int64) (t x y z d : Int32), Imm fi f → f hh = some (.inr (2, [.ref ha])) → f ha = some (.inl (K 1, 8, .inr (.inl h))) → f mm = some (.inr (3, [.int t, .int x, .int y, .int z])) → a + (E i).length ≤ 8 →
    (((∃ fs, fi (ra i) = some (.inr (5, fs))) ∨ ∃ fs, fi (ra i) = some (.inr (4, fs))) → Kc l D B K yX7_place cX7_place 7 (some .long) (i + 2) 0 0 [.ref (ra i), .ref hh, .int (nI a), .int d, .ref mm] f (Ql_ D B (fun r f9 => r = plR sg h (E i) a ∧ f9 = plF f mm t d (missE sg h (E i) a)))) ∧
    ((∃ fs, fi (ra i) = some (.inr (0, fs))) → Kc l D B K yX0_place cX0_place 7 (some .long) (i + 2) 0 0 [.ref (ra i), .ref hh, .int (nI a), .int d, .ref mm] f (Ql_ D B (fun r f9 => r = plR sg h (E i) a ∧ f9 = plF f mm t d (missE sg h (E i) a)))) ∧
    ((∃ fs, fi (ra i) = some (.inr (1, fs))) → Kc l D B K yX1_place cX1_place 14 (some .long) (i + 2) 0 0 [.ref (ra i), .ref hh, .int (nI a), .int d, .ref mm] f (Ql_ D B (fun r f9 => r = plR sg h (E i) a ∧ f9 = plF f mm t d (missE sg h (E i) a))))
section VT
variable {p : Program} {l : Launch} {e : Env} {R : Room} {s : State} {m : MethodId} {args : Array Value} {below : List Frame} {meth : Method} {c : Code} {D : va_G} {B nL : Nat} {Q : State → Prop} {ce sl : Nat} {f : St} {lv : Lv} {pc : Nat} {st : List Value} {cc : ByteArray} {own : String} {K : Nat → ClassId}
theorem v_rq {r : Option Nat} {a : Nat} (e9 : r = some a) (k : V p l e R s m args below meth c D B nL Q ce sl f lv pc (.ref a :: st)) : V p l e R s m args below meth c D B nL Q ce sl f lv pc (va_rf r :: st) := by subst e9; exact k
theorem v_rn {r : Option Nat} (e9 : r = none) (k : V p l e R s m args below meth c D B nL Q ce sl f lv pc (.null :: st)) : V p l e R s m args below meth c D B nL Q ce sl f lv pc (va_rf r :: st) := by subst e9; exact k
theorem v_getR (C : Cx p s m args c cc nL own D B K) {index a ci : Nat} {fs : List Value} {v : Value} (hd : decode cc pc = .ok (.getfield index, 3)) (k9 : Nat) (hk : k9 < 4) (hci : ci = 0 ∨ ci = 1 ∨ ci = 4 ∨ ci = 5) (he : f a = some (.inr (ci, fs))) (g1 : Cond.fieldLink own index "IndexRanges$Range" (TX6 k9).2.1 (TX6 k9).2.2.1 ∈ GT) (hv : fs[k9]? = some v) (k : V p l e R s m args below meth c D B nL Q ce sl f lv (pc + 3) (v :: st)) : V p l e R s m args below meth c D B nL Q ce sl f lv pc (.ref a :: st) := by
  have e0 : ∀ k, k < 4 → TX0 k = TX6 k := by decide +kernel
  have e1 : ∀ k, k < 4 → TX1 k = TX6 k := by decide +kernel
  have e4 : ∀ k, k < 4 → TX4 k = TX6 k := by decide +kernel
  have e6 : ∀ k, k < 4 → (TX6 k).1 = "IndexRanges$Range" := by decide +kernel
  rcases hci with rfl | rfl | rfl | rfl
  · exact v_get C hd k9 he rfl in_X0 (by omega) (by rw [e0 k9 hk]; exact g1) (fun x h9 => by rw [e0 k9 hk, e6 k9 hk] at h9; rw [e0 k9 hk]; exact h9) hv k
  · exact v_get C hd k9 he rfl in_X1 (by omega) (by rw [e1 k9 hk]; exact g1) (fun x h9 => by rw [e1 k9 hk, e6 k9 hk] at h9; rw [e1 k9 hk]; exact h9) hv k
  · exact v_get C hd k9 he rfl in_X4 (by omega) (by rw [e4 k9 hk]; exact g1) (fun x h9 => by rw [e4 k9 hk, e6 k9 hk] at h9; rw [e4 k9 hk]; exact h9) hv k
  · exact v_get C hd k9 he rfl in_X6 (by omega) g1 (fun x h9 => by rw [e6 k9 hk] at h9; exact h9) hv k
theorem v_place (C : Cx p s m args c cc nL own D B K) {sg : Nat → Sg} {E : Nat → List Ent} {ra : Nat → Nat} {kd : Nat → Int32} {fi : St} {i index hh ha mm a : Nat} {h : Nat → Int64} {t x y z d : Int32} {rest : List Value} (hd : decode cc pc = .ok (.invokevirtual index, 3)) (hT : RTi K sg E ra kd fi i) (hP : PLk l D B K sg E ra fi i) (hI : Imm fi f) (hH : f hh = some (.inr (2, [.ref ha]))) (hA : f ha = some (.inl (K 1, 8, .inr (.inl h)))) (hM : f mm = some (.inr (3, [.int t, .int x, .int y, .int z]))) (hw9 : a + (E i).length ≤ 8)
    (g1 : Cond.methodLink own index xR_place ∈ GT) (hR : RN R (i + 2 + 1)) (hst : st = [Value.ref mm, .int d, .int (nI a), .ref hh, .ref (ra i)] ++ rest) (hrest : (rest.map fun v => v.category).sum ≤ 8) (hf : ce ≤ R.cells ∧ sl ≤ R.slots)
    (k : V p l e R s m args below meth c D B nL Q ce sl (plF f mm t d (missE sg h (E i) a)) lv (pc + 3) (.long (plR sg h (E i) a) :: rest)) : V p l e R s m args below meth c D B nL Q ce sl f lv pc st := by
  obtain ⟨h7, h0, h1⟩ := hP f hh ha mm a h t x y z d hI hH hA hM hw9
  have hst2 : st = ([Value.ref hh, .int (nI a), .int d, .ref mm] : List Value).reverse ++ .ref (ra i) :: rest := hst
  rcases hT with ⟨⟨fst, lst, sp, q1, _⟩ | ⟨ar, fs, q1, _⟩, hE⟩ | ⟨j, _, q1, _, hE⟩ | ⟨js, pa, g, _, _, q1, _⟩
  · exact v_cl (r_A (x := xR_place) (owner := RX5) C (h7 (Or.inl ⟨_, q1⟩)) hd (hI _ _ q1) rfl g1 g_sm_X5_X5_place g_se_X6_X5_place_4ad2_yX7_place g_im_yX7_place g_in_X7 g_cd_yX7_place (by decide +kernel) hR (by decide) hst2 hdn_xR_place hrest hf) (fun r f9 hp => by obtain ⟨rfl, rfl⟩ := hp; exact k)
  · exact v_cl (r_A (x := xR_place) (owner := RX5) C (h7 (Or.inr ⟨_, q1⟩)) hd (hI _ _ q1) rfl g1 g_sm_X5_X5_place g_se_X4_X5_place_4ad2_yX7_place g_im_yX7_place g_in_X7 g_cd_yX7_place (by decide +kernel) hR (by decide) hst2 hdn_xR_place hrest hf) (fun r f9 hp => by obtain ⟨rfl, rfl⟩ := hp; exact k)
  · exact v_cl (r_A (x := xR_place) (owner := RX5) C (h0 ⟨_, q1⟩) hd (hI _ _ q1) rfl g1 g_sm_X5_X5_place g_se_X0_X5_place_4ad2_yX0_place g_im_yX0_place g_in_X0 g_cd_yX0_place (by decide +kernel) hR (by decide) hst2 hdn_xR_place hrest hf) (fun r f9 hp => by obtain ⟨rfl, rfl⟩ := hp; exact k)
  · exact v_cl (r_A (x := xR_place) (owner := RX5) C (h1 ⟨_, q1⟩) hd (hI _ _ q1) rfl g1 g_sm_X5_X5_place g_se_X1_X5_place_4ad2_yX1_place g_im_yX1_place g_in_X1 g_cd_yX1_place (by decide +kernel) hR (by decide) hst2 hdn_xR_place hrest hf) (fun r f9 hp => by obtain ⟨rfl, rfl⟩ := hp; exact k)
end VT
