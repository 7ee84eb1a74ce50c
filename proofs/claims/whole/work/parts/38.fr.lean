/-! FRAMES: which of the reference's cells a method may change. W: of array k the place j; X: of the object the field j. -/
def FW (W : Nat → Nat → Prop) (X : Nat → Prop) (x : Nat) (q : Nat → Nat) (h0 h : jv_H) : Prop := jv_sh h = jv_sh h0 ∧ (∀ a j, jv_P h a j = jv_P h0 a j) ∧ (∀ a j, jv_L h a j = jv_L h0 a j) ∧ (∀ k j, k < 42 → rf_arr k = true → ¬ W k j → jv_I h (q k) j = jv_I h0 (q k) j) ∧ (∀ j, ¬ X j → jv_I h x j = jv_I h0 x j) ∧ ∀ a j, a ≠ x → (∀ k, k < 42 → rf_arr k = true → a ≠ q k) → jv_I h a j = jv_I h0 a j
def fr (x : Nat) (q : Nat → Nat) (h0 h : jv_H) : Prop := FW (fun _ _ => True) (fun _ => True) x q h0 h
section FW
variable {W W' : Nat → Nat → Prop} {X X' : Nat → Prop} {x : Nat} {q : Nat → Nat} {h0 h h1 : jv_H}
theorem FW.rf : FW W X x q h h := ⟨rfl, fun _ _ => rfl, fun _ _ => rfl, fun _ _ _ _ _ => rfl, fun _ _ => rfl, fun _ _ _ _ => rfl⟩
theorem FW.tr (a : FW W X x q h0 h) (b : FW W X x q h h1) : FW W X x q h0 h1 := ⟨b.1.trans a.1, fun c j => (b.2.1 c j).trans (a.2.1 c j), fun c j => (b.2.2.1 c j).trans (a.2.2.1 c j), fun k j hk hr n => (b.2.2.2.1 k j hk hr n).trans (a.2.2.2.1 k j hk hr n), fun j n => (b.2.2.2.2.1 j n).trans (a.2.2.2.2.1 j n), fun c j n m => (b.2.2.2.2.2 c j n m).trans (a.2.2.2.2.2 c j n m)⟩
theorem FW.mono (a : FW W X x q h0 h) (hW : ∀ k j, W k j → W' k j) (hX : ∀ j, X j → X' j) : FW W' X' x q h0 h := ⟨a.1, a.2.1, a.2.2.1, fun k j hk hr n => a.2.2.2.1 k j hk hr (fun w => n (hW k j w)), fun j n => a.2.2.2.2.1 j (fun w => n (hX j w)), a.2.2.2.2.2⟩
theorem FW.fr (a : FW W X x q h0 h) : fr x q h0 h := a.mono (fun _ _ _ => trivial) (fun _ _ => trivial)
theorem FW.S (a : FW W X x q h0 h) (hS : rf_S x q h0) : rf_S x q h := by
  refine ⟨by rw [a.1]; exact hS.1, fun k hk hr => ?_, hS.2.2⟩
  rw [a.1, a.2.1]
  exact hS.2.1 k hk hr
/-- reading behind a store -/
theorem qI_q (hS : rf_S x q h0) {k k' : Nat} (hk : k < 42) (hr : rf_arr k = true) (hk' : k' < 42) (hr' : rf_arr k' = true) (j j' : Nat) (v : Int32) : jv_I (jv_wI h (q k') j' v) (q k) j = if k = k' ∧ j = j' then v else jv_I h (q k) j := by
  rw [jv_I_wI]
  by_cases hc : k = k'
  · subst hc
    by_cases hj : j = j'
    · rw [if_pos ⟨rfl, hj⟩, if_pos ⟨rfl, hj⟩]
    · rw [if_neg (fun e => hj e.2), if_neg (fun e => hj e.2)]
  · rw [if_neg (fun e => hc (hS.2.2 k k' hk hk' hr hr' e.1)), if_neg (fun e => hc e.1)]
theorem qI_x (hS : rf_S x q h0) {k : Nat} (hk : k < 42) (hr : rf_arr k = true) (j j' : Nat) (v : Int32) : jv_I (jv_wI h x j' v) (q k) j = jv_I h (q k) j := by
  rw [jv_I_wI, if_neg (fun e => rf_x hS hk hr e.1)]
theorem xI_q (hS : rf_S x q h0) {k : Nat} (hk : k < 42) (hr : rf_arr k = true) (j j' : Nat) (v : Int32) : jv_I (jv_wI h (q k) j' v) x j = jv_I h x j := by
  rw [jv_I_wI, if_neg (fun e => rf_x hS hk hr e.1.symm)]
theorem xI_x (j j' : Nat) (v : Int32) : jv_I (jv_wI h x j' v) x j = if j = j' then v else jv_I h x j := by
  rw [jv_I_wI]
  by_cases hj : j = j'
  · rw [if_pos ⟨rfl, hj⟩, if_pos hj]
  · rw [if_neg (fun e => hj e.2), if_neg hj]
theorem FW.wq (a : FW W X x q h0 h) (hS : rf_S x q h0) {k j : Nat} (hk : k < 42) (hr : rf_arr k = true) (hw : W k j) (v : Int32) : FW W X x q h0 (jv_wI h (q k) j v) := ⟨a.1, a.2.1, a.2.2.1, fun k' j' hk' hr' n => by
  rw [qI_q hS hk' hr' hk hr, if_neg (fun e => n (by rw [e.1, e.2]; exact hw))]
  exact a.2.2.2.1 k' j' hk' hr' n, fun j' n => by rw [xI_q hS hk hr]; exact a.2.2.2.2.1 j' n, fun c j' n m => by
  rw [jv_I_wI, if_neg (fun e => m k hk hr e.1)]
  exact a.2.2.2.2.2 c j' n m⟩
theorem FW.wx (a : FW W X x q h0 h) (hS : rf_S x q h0) {j : Nat} (hw : X j) (v : Int32) : FW W X x q h0 (jv_wI h x j v) := ⟨a.1, a.2.1, a.2.2.1, fun k' j' hk' hr' n => by
  rw [qI_x hS hk' hr']
  exact a.2.2.2.1 k' j' hk' hr' n, fun j' n => by rw [xI_x, if_neg (fun e => n (by rw [e]; exact hw))]; exact a.2.2.2.2.1 j' n, fun c j' n m => by
  rw [jv_I_wI, if_neg (fun e => n e.1)]
  exact a.2.2.2.2.2 c j' n m⟩
end FW
/-- scratch cells; the edition, the type, the member, the caller that a cell is of -/
def scr (k j : Nat) : Prop := k = 31 ∨ (34 ≤ k ∧ k ≤ 41) ∨ ((k = 22 ∨ k = 23 ∨ k = 24) ∧ j = 12)
def xcr (j : Nat) : Prop := j = 0 ∨ j = 32 ∨ j = 33
def k_t (k : Nat) : Prop := (4 ≤ k ∧ k ≤ 10) ∨ k = 12
def k_m (k : Nat) : Prop := 13 ≤ k ∧ k ≤ 19
def o_E (e k j : Nat) : Prop := ((k = 2 ∨ k = 3) ∧ j = e) ∨ (k_t k ∧ 10 * e ≤ j ∧ j < 10 * e + 10) ∨ (k = 11 ∧ 30 * e ≤ j ∧ j < 30 * e + 30) ∨ (k_m k ∧ 60 * e ≤ j ∧ j < 60 * e + 60) ∨ (k = 20 ∧ 256 * e ≤ j ∧ j < 256 * e + 256)
def o_T (i k j : Nat) : Prop := (k_t k ∧ j = i) ∨ (k = 11 ∧ 3 * i ≤ j ∧ j < 3 * i + 3) ∨ (k_m k ∧ 6 * i ≤ j ∧ j < 6 * i + 6)
def o_M (i k j : Nat) : Prop := k_m k ∧ j = i
def o_C (c k j : Nat) : Prop := (22 ≤ k ∧ k ≤ 25 ∧ j = c) ∨ (26 ≤ k ∧ k ≤ 30 ∧ 20 * c ≤ j ∧ j < 20 * c + 20)
section FQ
variable {W : Nat → Nat → Prop} {X : Nat → Prop} {x : Nat} {q : Nat → Nat} {h0 h : jv_H}
theorem rs.FW (a : rs x q h0 h) (hS : rf_S x q h0) : FW scr xcr x q h0 h := by
  have h6 : ∀ a' j, a' ≠ x → (∀ k, k < 42 → rf_arr k = true → a' ≠ q k) → jv_I h a' j = jv_I h0 a' j := by
    intro a' j n m
    refine a.2.2.2 a' j ?_
    rintro (⟨e, -⟩ | e | e | e | e | e | e | e | e | e | ⟨e | e | e, -⟩)
    · exact n e
    all_goals exact m _ (by decide) (by decide) e
  refine ⟨a.1, a.2.1, a.2.2.1, fun k j hk hr n => ?_, fun j n => ?_, h6⟩
  · refine a.I hS k hk hr ?_ j ?_
    · refine ⟨fun e => n (Or.inl e), ?_⟩
      refine ⟨fun e => ?_, fun e => ?_, fun e => ?_, fun e => ?_, fun e => ?_, fun e => ?_, fun e => ?_, fun e => ?_⟩ <;> exact n (Or.inr (Or.inl (by omega)))
    · by_cases hj : j = 12
      · refine Or.inr ⟨fun e => ?_, fun e => ?_, fun e => ?_⟩ <;> exact n (Or.inr (Or.inr ⟨by omega, hj⟩))
      · exact Or.inl hj
  · exact a.x hS ⟨fun e => n (Or.inl e), fun e => n (Or.inr (Or.inl e)), fun e => n (Or.inr (Or.inr e))⟩
theorem sc.FW (a : sc x q h0 h) (hS : rf_S x q h0) : FW scr xcr x q h0 h := a.rs.FW hS
theorem FW.aq (a : FW W X x q h0 h) (k j : Nat) (n : ¬ W k j) (hk : k < 42 := by decide) (hr : rf_arr k = true := by rfl) : jv_I h (q k) j = jv_I h0 (q k) j := a.2.2.2.1 k j hk hr n
theorem FW.ax (a : FW W X x q h0 h) (j : Nat) (n : ¬ X j) : jv_I h x j = jv_I h0 x j := a.2.2.2.2.1 j n
/-- rows that are not touched -/
theorem FW.M (a : FW W X x q h0 h) {i : Nat} {m : mM} (n : ∀ k j, o_M i k j → ¬ W k j) (r : rf_M q h0 i m) : rf_M q h i m := by
  obtain ⟨r1, r2, r3, r4, r5, r6, r7⟩ := r
  have z : ∀ k, 13 ≤ k → k ≤ 19 → ¬ W k i := fun k h1 h2 => n k i ⟨⟨h1, h2⟩, rfl⟩
  exact ⟨(a.aq 13 i (z _ (by decide) (by decide))).trans r1, (a.aq 14 i (z _ (by decide) (by decide))).trans r2, (a.aq 15 i (z _ (by decide) (by decide))).trans r3, (a.aq 16 i (z _ (by decide) (by decide))).trans r4, (a.aq 17 i (z _ (by decide) (by decide))).trans r5, (a.aq 18 i (z _ (by decide) (by decide))).trans r6, (a.aq 19 i (z _ (by decide) (by decide))).trans r7⟩
theorem FW.T (a : FW W X x q h0 h) {i : Nat} {t : mT} (ho : mt_ok t) (n : ∀ k j, o_T i k j → ¬ W k j) (r : rf_T q h0 i t) : rf_T q h i t := by
  obtain ⟨r1, r2, r3, r4, r5, r6, r7, r8, r9, r10⟩ := r
  have z : ∀ k, k_t k → ¬ W k i := fun k h1 => n k i (Or.inl ⟨h1, rfl⟩)
  refine ⟨(a.aq 4 i (z _ (by unfold k_t; decide))).trans r1, (a.aq 5 i (z _ (by unfold k_t; decide))).trans r2, (a.aq 6 i (z _ (by unfold k_t; decide))).trans r3, (a.aq 7 i (z _ (by unfold k_t; decide))).trans r4, (a.aq 8 i (z _ (by unfold k_t; decide))).trans r5, (a.aq 9 i (z _ (by unfold k_t; decide))).trans r6, (a.aq 10 i (z _ (by unfold k_t; decide))).trans r7, (a.aq 12 i (z _ (by unfold k_t; decide))).trans r8, fun j v e => ?_, fun j m e => ?_⟩
  · have h1 := jv_ltGet e
    have h2 := ho.2.2.2.1
    exact (a.aq 11 _ (n 11 _ (Or.inr (Or.inl ⟨rfl, by omega, by omega⟩)))).trans (r9 j v e)
  · have h1 := jv_ltGet e
    have h2 := ho.2.2.2.2.2.1
    refine a.M (fun k j' w => n k j' (Or.inr (Or.inr ⟨w.1, ?_⟩))) (r10 j m e)
    rw [w.2]
    omega
theorem FW.E (a : FW W X x q h0 h) {e : Nat} {ts : List mT} (n : ∀ k j, o_E e k j → ¬ W k j) (r : rf_E q h0 e ts) : rf_E q h e ts := by
  refine ⟨(a.aq 3 e (n 3 e (Or.inl ⟨Or.inr rfl, rfl⟩))).trans r.1, r.2.1, fun k t ht => ⟨a.T (r.2.2 k t ht).2 (fun k' j w => n k' j ?_) (r.2.2 k t ht).1, (r.2.2 k t ht).2⟩⟩
  have h1 := jv_ltGet ht
  have h2 := r.2.1
  unfold o_E
  rcases w with ⟨w1, w2⟩ | ⟨w1, w2⟩ | ⟨w1, w2⟩
  · exact Or.inr (Or.inl ⟨w1, by omega⟩)
  · exact Or.inr (Or.inr (Or.inl ⟨w1, by omega⟩))
  · exact Or.inr (Or.inr (Or.inr (Or.inl ⟨w1, by omega⟩)))
theorem FW.V (a : FW W X x q h0 h) {e : Nat} {ts : List mT} (n : ∀ k j, o_E e k j → ¬ W k j) (r : rf_V q h0 e ts) : rf_V q h e ts := fun u l hu hl => (a.aq 20 _ (n 20 _ (Or.inr (Or.inr (Or.inr (Or.inr ⟨rfl, by omega, by omega⟩)))))).trans (r u l hu hl)
theorem FW.C (a : FW W X x q h0 h) {c : Nat} {C : mC} (hl : (mc_l C).length ≤ 20) (n : ∀ k j, o_C c k j → ¬ W k j) (r : rf_C q h0 c C) : rf_C q h c C := by
  obtain ⟨r1, r2, r3, r4, r5⟩ := r
  have z : ∀ k, 22 ≤ k → k ≤ 25 → ¬ W k c := fun k h1 h2 => n k c (Or.inl ⟨h1, h2, rfl⟩)
  refine ⟨(a.aq 22 c (z _ (by decide) (by decide))).trans r1, (a.aq 23 c (z _ (by decide) (by decide))).trans r2, (a.aq 24 c (z _ (by decide) (by decide))).trans r3, (a.aq 25 c (z _ (by decide) (by decide))).trans r4, fun j u e => ?_⟩
  obtain ⟨s1, s2, s3, s4, s5⟩ := r5 j u e
  have h1 := jv_ltGet e
  have y : ∀ k, 26 ≤ k → k ≤ 30 → ¬ W k (20 * c + j) := fun k h1 h2 => n k _ (Or.inr ⟨h1, h2, by omega, by omega⟩)
  exact ⟨(a.aq 26 _ (y _ (by decide) (by decide))).trans s1, (a.aq 27 _ (y _ (by decide) (by decide))).trans s2, (a.aq 28 _ (y _ (by decide) (by decide))).trans s3, (a.aq 29 _ (y _ (by decide) (by decide))).trans s4, (a.aq 30 _ (y _ (by decide) (by decide))).trans s5⟩
/-- one edition anew -/
def w_E (e k j : Nat) : Prop := o_E e k j ∨ scr k j
theorem w_E_ne {e e' k j : Nat} (hne : e' ≠ e) (o : o_E e' k j) : ¬ w_E e k j := by
  unfold o_E k_t k_m at o
  unfold w_E o_E scr k_t k_m
  omega
theorem w_E_C {e c k j : Nat} (hc : c < 12) (o : o_C c k j) : ¬ w_E e k j := by
  unfold o_C at o
  unfold w_E o_E scr k_t k_m
  omega
def m_put (M : mA) (e : Nat) (E : mE) : mA := (M.1.set e E, M.2)
theorem ma_put_same {M : mA} {e : Nat} {E : mE} (he : e < M.1.length) : ma_t (m_put M e E) e = E.2 ∧ ma_s (m_put M e E) e = E.1 := by
  unfold ma_t ma_s m_put
  simp [he]
theorem ma_put_ne {M : mA} {e e' : Nat} {E : mE} (h : e' ≠ e) : ma_t (m_put M e E) e' = ma_t M e' ∧ ma_s (m_put M e E) e' = ma_s M e' := by
  unfold ma_t ma_s m_put
  simp [List.getElem?_set_ne (Ne.symm h)]
theorem rf_R.ed {M : mA} (hR : rf_R x q h0 M) {e : Nat} {s : Bool} {ts : List mT} (he : e < M.1.length) (hu : ma_s M e = false) (a : FW (w_E e) xcr x q h0 h) (hs : jv_I h (q 2) e = jv_bI s) (hE : rf_E q h e ts) (hv : s = true → rf_V q h e ts ∧ m_sok ts) : rf_R x q h (m_put M e (s, ts)) := by
  obtain ⟨hS, ⟨h1, h2⟩, ⟨h3, h4⟩, h5, h6, h7⟩ := hR
  refine ⟨a.S hS, ⟨by simpa [m_put] using h1, ?_⟩, ⟨h3, (a.ax 21 (by unfold xcr; decide)).trans h4⟩, fun e' he' => ?_, fun e' he' hs' => ?_, fun c C hC => ?_⟩
  · rw [a.ax 1 (by unfold xcr; decide), h2]; simp [m_put]
  · by_cases hee : e' = e
    · subst hee
      rw [(ma_put_same he).1, (ma_put_same he).2]
      exact ⟨hs, hE⟩
    · rw [(ma_put_ne hee).1, (ma_put_ne hee).2]
      exact ⟨(a.aq 2 e' (w_E_ne hee (Or.inl ⟨Or.inl rfl, rfl⟩))).trans (h5 e' he').1, a.E (fun k j o => w_E_ne hee o) (h5 e' he').2⟩
  · by_cases hee : e' = e
    · subst hee
      rw [(ma_put_same he).2] at hs'
      rw [(ma_put_same he).1]
      exact hv hs'
    · rw [(ma_put_ne hee).2] at hs'
      rw [(ma_put_ne hee).1]
      exact ⟨a.V (fun k j o => w_E_ne hee o) (h6 e' he' hs').1, (h6 e' he' hs').2⟩
  · have hC : M.2[c]? = some C := hC
    have hc := jv_ltGet hC
    obtain ⟨g1, g2⟩ := h7 c C hC
    refine ⟨a.C g2.2.2.2.2.1 (fun k j o => w_E_C (by omega) o) g1, ?_, ?_, g2.2.2⟩
    · show mc_e C < (M.1.set e (s, ts)).length
      rw [List.length_set]
      exact g2.1
    · rw [(ma_put_ne (fun e1 => by have g3 := g2.2.1; rw [e1, hu] at g3; cases g3)).2]
      exact g2.2.1
end FQ
theorem jv_zastI {E : jv_E} {cc : ByteArray} {own : String} {nL : Nat} {h : jv_H} {ce sl : Nat} {Q : State → Prop} {pc q : Nat} {lo : List (Nat × Value)} {st : List Value} (G : jv_C E cc own nL) {a n j : Nat} {i v : Int32} (hd : decode cc pc = .ok (.bastore, 1)) (ha : jv_sh h a = some (.inr (.boolean, n))) (hi : i = nI j) (hj : j < n) (hn : n < 2 ^ 31) (hp : pc + 1 = q) (kk : jv_V E nL (jv_wI h a j (v &&& 1)) ce sl Q q lo st) : jv_V E nL h ce sl Q pc lo (.int v :: .int i :: .ref a :: st) := by
  subst hp; subst hi
  intro H locs ls hR hS hl
  have hc := (hR a _ ha).2.2
  refine W.zast G.1 G.2.1 hc ((G.2.2.2.2.2.1.2 .boolean jv_ty_bool).1 n _) (fun z => by cases z) (by show ¬ (nI j < 0 ∨ (arrV _ _ _).slots.size ≤ _); rw [arrV_size]; exact nI_in hj hn) rfl rfl hd fun H1 e z oq => ?_
  rw [nI_clamp (by omega)] at e
  have hnar : narrow .boolean (.int v) = .int (v &&& 1) := rfl
  rw [hnar] at e
  exact kk H1 _ ls (hR.ast ha e oq (jv_sh_wI h a j _) jv_vI (congrArg Value.int (jv_I_self h a j _))) (hS.put z oq (hR a _ ha).1) hl
theorem jv_bI_and (b : Bool) : jv_bI b &&& 1 = jv_bI b := by cases b <;> decide
