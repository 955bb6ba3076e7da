/-! the reference: what each call makes of the one state -/
def MDt (K : Nat → ClassId) (r : Nat → Nat) (f0 f : St) (th : Int32) (S : AS) : Prop := match S with
  | (n, na, sg, E, kd, (t, x, y, z), h, bs, cl) => ∃ (A : Nat → Nat → Int32) (L : Nat → Nat → Int64) (I : Nat → Int32), MC K r f0 f A L I ∧ MdI A L I n na sg E kd t x y z h bs cl ∧ I 21 = th
theorem MDt.d {K : Nat → ClassId} {r : Nat → Nat} {f0 f : St} {th : Int32} {S : AS} (h : MDt K r f0 f th S) : MD K r f0 f S := by
  obtain ⟨n, na, sg, E, kd, ⟨t, x, y, z⟩, h9, bs, cl⟩ := S
  obtain ⟨A, L, I, h1, h2, h3⟩ := h
  exact ⟨A, L, I, h1, h2⟩
def PMt (K : Nat → ClassId) (r : Nat → Nat) (f : St) {α : Type} (w : Int32 × α × AS) : α → St → Prop := fun a f9 => (w.1 = 0 → a = w.2.1) ∧ MDt K r f f9 w.1 w.2.2
section MI
variable {A A2 : Nat → Nat → Int32} {L L2 : Nat → Nat → Int64} {I : Nat → Int32} {n na : Nat} {sg sg2 : Nat → Sg} {E : Nat → List Ent} {kd : Nat → Int32} {t : Nat} {x y z : Int32} {h : Nat → Int64} {bs : Nat → Nat} {cl : Nat → Nat → Int32}
theorem md_miss (hD : MdI A L I n na sg E kd t x y z h bs cl) (k : Nat) (e : Ent) : MdI A L (missI I k e) n na sg E kd (t + 1) (nI e.1) (nI k) (nI e.2.2) h bs cl := by
  obtain ⟨hI0, hn40, hR, hI13, hIm, hI17, hI18, hna, hB, hh, hok⟩ := hD
  exact ⟨hI0, hn40, hR, by rw [if_neg (by omega)]; rfl, fun _ => ⟨rfl, rfl, rfl⟩, by show I 17 + 1 = nI (t + 1); rw [hI17, nI_1], hI18, hna, hB, hh, hok⟩
theorem md_hand (hD : MdI A L I n na sg E kd t x y z h bs cl) (g h9 : Nat → Int64) (hg : ∀ j, j < 8 → g j = h9 j) : MdI A (up1 L 11 g) I n na sg E kd t x y z h9 bs cl := by
  obtain ⟨hI0, hn40, hR, hI13, hIm, hI17, hI18, hna, hB, hh, hok⟩ := hD
  exact ⟨hI0, hn40, hR, hI13, hIm, hI17, hI18, hna, hB, hg, hok⟩
theorem RowM.mono {l : List Ent} {i : Nat} (hr : RowM A L sg l i n) (hi : i < n) (h3 : A2 3 i = A 3 i) (h8 : ∀ j, j < 8 * n → A2 8 j = A 8 j ∧ A2 9 j = A 9 j ∧ A2 10 j = A 10 j) (ho : ∀ o, o < n → sgM A2 L2 o = sgM A L o ∧ L2 4 o = L 4 o ∧ sg2 o = sg o) : RowM A2 L2 sg2 l i (n + 1) := by
  obtain ⟨r1, r2, r3, r4⟩ := hr
  refine ⟨by rw [h3]; exact r1, r2, r3, fun k e he => ?_⟩
  obtain ⟨q8, q9, q10, qn, qs, qo, qz⟩ := r4 k e he
  have hk : k < l.length := (List.getElem?_eq_some_iff.mp he).1
  obtain ⟨t8, t9, t10⟩ := h8 (8 * i + k) (by omega)
  obtain ⟨s1, s2, s3⟩ := ho e.1 qn
  exact ⟨by rw [t8]; exact q8, by rw [t9]; exact q9, by rw [t10]; exact q10, by omega, by rw [s1, s3]; exact qs, by rw [s3]; exact qo, by rw [s2, s3]; exact qz⟩
theorem cnt_le {l : List Ent} (hp : 0 < prodE sg l) {e : Ent} (he : e ∈ l) : cntS (sg e.1) ≤ prodE sg l := by
  induction l with
  | nil => cases he
  | cons a t ih =>
    rw [prodE_c] at hp ⊢
    have h1 : 0 < cntS (sg a.1) := Nat.pos_of_mul_pos_right hp
    have h2 : 0 < prodE sg t := Nat.pos_of_mul_pos_left hp
    rcases List.mem_cons.mp he with q | q
    · subst q; exact Nat.le_mul_of_pos_right _ h2
    · exact Nat.le_trans (ih h2 q) (Nat.le_mul_of_pos_left _ h1)
theorem md_single (hD : MdI A L I n na sg E kd t x y z h bs cl) (hn : n < 40) {kd9 sp : Int32} {a b : Int64} (hq : okS (kd9, a, b, sp)) (hpt : ptK kd9 = 0) : MdI (addA A n kd9 sp) (addL L n (kd9, a, b, sp)) (up1 I 0 (nI (n + 1))) (n + 1) na (up1 sg n (kd9, a, b, sp)) (up1 E n [(n, false, 0)]) (up1 kd n kd9) t x y z h bs cl := by
  obtain ⟨hI0, hn40, hR, hI13, hIm, hI17, hI18, hna, hB, hh, hok⟩ := hD
  have hlt : ∀ {α : Type} (A : Nat → α) (v : α) (i : Nat), i < n → up1 A n v i = A i := fun A v i hi => up1_ne _ _ (by omega)
  have hp : ∀ i, i < n → prodE (up1 sg n (kd9, a, b, sp)) (E i) = prodE sg (E i) := fun i hi => prod_congr (fun e he => by
    obtain ⟨k, hk⟩ := List.getElem?_of_mem he
    exact hlt _ _ _ ((hR i hi).2.2.2.1.2.2.2 k e hk).2.2.2.1)
  have ho : ∀ o, o < n → sgM (addA A n kd9 sp) (addL L n (kd9, a, b, sp)) o = sgM A L o ∧ addL L n (kd9, a, b, sp) 4 o = L 4 o ∧ up1 sg n (kd9, a, b, sp) o = sg o := fun o h9 => ⟨sg_eq (pk_un (by omega)) (pk_un (by omega)) (pk_uLn (by omega)) (pk_uLn (by omega)), pk_uLn (by omega), hlt _ _ _ h9⟩
  refine ⟨rfl, by omega, fun i hi => ?_, hI13, hIm, hI17, hI18, hna, fun c hc => ?_, hh, okS_up hok hq⟩
  · by_cases e : i = n
    · subst e
      rw [up1_self, up1_self]
      refine ⟨pk_us, by rw [hpt]; exact pk_us, ?_, ⟨pk_us, Nat.le_refl 1, (by decide : (1 : Nat) ≤ 8), fun k e he => ?_⟩, fun _ e he => ?_⟩
      · show vp_updL (L 4) i (sat (cntS (kd9, a, b, sp))) i = _
        rw [pk_uLs, prod_1, up1_self]
      · match k, he with
        | 0, he =>
          cases he
          exact ⟨pk_us, pk_us, pk_us, by omega, by rw [up1_self]; exact sg_add, by rw [up1_self]; exact hq, by rw [up1_self]; exact pk_uLs⟩
        | k + 1, he => simp at he
      · rcases List.mem_cons.mp he with q | q
        · subst q; intro h9; cases h9
        · cases q
    · have hi2 : i < n := by omega
      obtain ⟨r1, r2, r3, r4, r5⟩ := hR i hi2
      rw [hlt _ _ _ hi2, hlt _ _ _ hi2, hp i hi2]
      refine ⟨by rw [← r1]; exact pk_un e, by rw [← r2]; exact pk_un e, by rw [← r3]; exact pk_uLn e, r4.mono hi2 (pk_un e) (fun j hj => ⟨pk_un (by omega), pk_un (by omega), pk_un (by omega)⟩) ho, fun h9 e9 he9 h8 => ?_⟩
      obtain ⟨k, hk⟩ := List.getElem?_of_mem he9
      rw [hlt _ _ _ (r4.2.2.2 k e9 hk).2.2.2.1]
      exact r5 h9 e9 he9 h8
  · obtain ⟨b1, b2, b3, b4⟩ := hB c hc
    exact ⟨b1, by omega, by rw [hlt _ _ _ b2, hp _ b2]; exact b3, b4⟩
def BG (A A2 : Nat → Nat → Int32) (n : Nat) (k m w : Int32) : Prop := (∀ kk, kk ≠ 8 → kk ≠ 9 → kk ≠ 10 → A2 kk = begA A n k m w kk) ∧ ∀ j, j < 8 * n → A2 8 j = A 8 j ∧ A2 9 j = A 9 j ∧ A2 10 j = A 10 j
theorem TK.bg {at9 o w9 : Nat} {b k m w : Int32} (hT : TK (begA A n k m w) A2 n at9 o w9 b) : BG A A2 n k m w := ⟨hT.1, fun j hj => hT.2.1 j (by omega)⟩
theorem BG.tk {A3 : Nat → Nat → Int32} {at9 o w9 : Nat} {b k m w : Int32} (hB : BG A A2 n k m w) (hT : TK A2 A3 n at9 o w9 b) : BG A A3 n k m w := ⟨fun kk h8 h9 h10 => by rw [hT.1 kk h8 h9 h10]; exact hB.1 kk h8 h9 h10, fun j hj => by
  obtain ⟨a1, a2, a3⟩ := hT.2.1 j (by omega)
  rw [a1, a2, a3]
  exact hB.2 j hj⟩
theorem md_rest (hD : MdI A L I n na sg E kd t x y z h bs cl) (hn : n < 40) {k9 w : Int32} {m : Nat} {l9 : List Ent} (hB2 : BG A A2 n k9 (nI m) w) (hpt : ptK k9 = m) (hrow : RowM A2 L sg l9 n n) (hti : 0 < prodE sg l9 → ∀ e ∈ l9, e.2.1 = true → cntS (sg e.1) < 9223372036854775808) : MdI A2 (up1 L 4 (vp_updL (L 4) n (sat (prodE sg l9)))) (up1 I 0 (nI (n + 1))) (n + 1) na sg (up1 E n l9) (up1 kd n k9) t x y z h bs cl := by
  obtain ⟨hI0, hn40, hR, hI13, hIm, hI17, hI18, hna, hB, hh, hok⟩ := hD
  have hlt : ∀ {α : Type} (A : Nat → α) (v : α) (i : Nat), i < n → up1 A n v i = A i := fun A v i hi => up1_ne _ _ (by omega)
  have g1 : A2 1 = upd (A 1) n k9 := hB2.1 1 (by decide) (by decide) (by decide)
  have g2 : A2 2 = upd (A 2) n (nI m) := hB2.1 2 (by decide) (by decide) (by decide)
  have g3 : A2 3 = upd (A 3) n w := hB2.1 3 (by decide) (by decide) (by decide)
  have g7 : A2 7 = A 7 := hB2.1 7 (by decide) (by decide) (by decide)
  have g19 : A2 19 = A 19 := hB2.1 19 (by decide) (by decide) (by decide)
  have g20 : A2 20 = A 20 := hB2.1 20 (by decide) (by decide) (by decide)
  have ho : ∀ o, o < n → sgM A2 (up1 L 4 (vp_updL (L 4) n (sat (prodE sg l9)))) o = sgM A L o ∧ up1 L 4 (vp_updL (L 4) n (sat (prodE sg l9))) 4 o = L 4 o ∧ sg o = sg o := fun o h9 => ⟨sg_eq (by rw [g1]; exact pk_un (by omega)) (by rw [g7]) rfl rfl, pk_uLn (by omega), rfl⟩
  refine ⟨rfl, by omega, fun i hi => ?_, hI13, hIm, hI17, hI18, hna, fun c hc => ?_, hh, hok⟩
  · by_cases e : i = n
    · subst e
      rw [up1_self kd, up1_self E]
      refine ⟨by rw [g1]; exact pk_us, by rw [g2, hpt]; exact pk_us, pk_uLs, ⟨hrow.1, hrow.2.1, hrow.2.2.1, fun k e he => ?_⟩, hti⟩
      obtain ⟨q8, q9, q10, qn, qs, qo, qz⟩ := hrow.2.2.2 k e he
      exact ⟨q8, q9, q10, by omega, qs, qo, by rw [← qz]; exact pk_uLn (by omega)⟩
    · have hi2 : i < n := by omega
      obtain ⟨r1, r2, r3, r4, r5⟩ := hR i hi2
      rw [hlt _ _ _ hi2, hlt _ _ _ hi2]
      exact ⟨by rw [g1, ← r1]; exact pk_un e, by rw [g2, ← r2]; exact pk_un e, by rw [← r3]; exact pk_uLn e, r4.mono hi2 (by rw [g3]; exact pk_un e) (fun j hj => hB2.2 j hj) ho, r5⟩
  · obtain ⟨b1, b2, b3, b4⟩ := hB c hc
    rw [g19, g20]
    exact ⟨b1, by omega, by rw [hlt _ _ _ b2]; exact b3, b4⟩
theorem md_cell (hD : MdI A L I n na sg E kd t x y z h bs cl) {a j : Nat} (ha : a < na) (hj : j < 400) (v : Int32) : MdI (up1 A 20 (upd (A 20) (400 * a + j) v)) L I n na sg E kd t x y z h bs (up1 cl a (upd (cl a) j v)) := by
  obtain ⟨hI0, hn40, hR, hI13, hIm, hI17, hI18, hna, hB, hh, hok⟩ := hD
  refine ⟨hI0, hn40, hR, hI13, hIm, hI17, hI18, hna, fun c hc => ?_, hh, hok⟩
  obtain ⟨b1, b2, b3, b4⟩ := hB c hc
  refine ⟨b1, b2, b3, fun k hk => ?_⟩
  show upd (A 20) (400 * a + j) v (400 * c + k) = _
  by_cases e : c = a
  · subst e
    rw [up1_self]
    by_cases e2 : k = j
    · subst e2; rw [pk_us, pk_us]
    · rw [pk_un (by omega), pk_un e2]; exact b4 k hk
  · rw [pk_un (by omega), up1_ne _ _ e]; exact b4 k hk
theorem md_array (hD : MdI A L I n na sg E kd t x y z h bs cl) (hna6 : na < 6) {i : Nat} (hi : i < n) (hp : prodE sg (E i) ≤ 400) {g : Nat → Int32} (hg : ∀ j, g j = if 400 * na ≤ j ∧ j < 400 * na + 400 then 0 else A 20 j) : MdI (up1 (up1 A 20 g) 19 (upd (A 19) na (nI i))) L (up1 I 18 (nI (na + 1))) n (na + 1) sg E kd t x y z h (up1 bs na i) (up1 cl na (fun _ => 0)) := by
  obtain ⟨hI0, hn40, hR, hI13, hIm, hI17, hI18, hna, hB, hh, hok⟩ := hD
  refine ⟨hI0, hn40, hR, hI13, hIm, hI17, rfl, by omega, fun c hc => ?_, hh, hok⟩
  show upd (A 19) na (nI i) c = _ ∧ _ ∧ _ ∧ ∀ k, k < 400 → g (400 * c + k) = _
  by_cases e : c = na
  · subst e
    rw [up1_self, up1_self]
    exact ⟨pk_us, hi, hp, fun k hk => by rw [hg, if_pos ⟨by omega, by omega⟩]⟩
  · rw [up1_ne _ _ e, up1_ne _ _ e]
    obtain ⟨b1, b2, b3, b4⟩ := hB c (by omega)
    exact ⟨by rw [pk_un e]; exact b1, b2, b3, fun k hk => by rw [hg, if_neg (by omega)]; exact b4 k hk⟩
end MI
theorem up_in {v m : Int32} : upC v m = 0 ↔ inM v.toInt64 0 m.toInt64 = 0 := by
  rw [in_0, i2l_toInt, i2l_toInt]
  have z : (0 : Int64).toInt = 0 := rfl
  have z2 : (0 : Int32).toInt = 0 := rfl
  rw [z]
  unfold upC
  by_cases c1 : v < 0
  · rw [if_pos c1]; rw [Int32.lt_iff_toInt_lt, z2] at c1
    exact ⟨fun _ h => by omega, fun _ => rfl⟩
  · rw [if_neg c1]; rw [Int32.lt_iff_toInt_lt, z2] at c1
    by_cases c2 : m < v
    · rw [if_pos c2]; rw [Int32.lt_iff_toInt_lt] at c2
      exact ⟨fun _ h => by omega, fun _ => rfl⟩
    · rw [if_neg c2]; rw [Int32.lt_iff_toInt_lt] at c2
      exact ⟨fun h => absurd h (by decide), fun h => absurd ⟨by omega, by omega⟩ h⟩
