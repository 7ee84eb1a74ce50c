/-! CONSTRUCTORS: what was there stays; rows of new objects -/
def sm (b : Nat) (h h' : jv_H) : Prop := jv_sh h' b = jv_sh h b ∧ (∀ j, jv_I h' b j = jv_I h b j) ∧ (∀ j, jv_L h' b j = jv_L h b j) ∧ ∀ j, jv_P h' b j = jv_P h b j
theorem sm.rf {b : Nat} {h : jv_H} : sm b h h := ⟨rfl, fun _ => rfl, fun _ => rfl, fun _ => rfl⟩
theorem sm.tr {b : Nat} {h h1 h2 : jv_H} (x : sm b h h1) (y : sm b h1 h2) : sm b h h2 := ⟨y.1.trans x.1, fun j => (y.2.1 j).trans (x.2.1 j), fun j => (y.2.2.1 j).trans (x.2.2.1 j), fun j => (y.2.2.2 j).trans (x.2.2.2 j)⟩
theorem sm.ne {b : Nat} {h h' : jv_H} (x : sm b h h') (n : jv_sh h b ≠ none) : jv_sh h' b ≠ none := by rw [x.1]; exact n
theorem ne_no {h : jv_H} {a b : Nat} (ha : jv_sh h a = none) (hb : jv_sh h b ≠ none) : b ≠ a := fun e => hb (e ▸ ha)
theorem sh_ne {h : jv_H} {b : Nat} {s : jv_S} (x : jv_sh h b = some s) : jv_sh h b ≠ none := fun e => by rw [x] at e; cases e
theorem sm_new {h : jv_H} {a b : Nat} {s : jv_S} (n : b ≠ a) : sm b h (jv_new h a s) := ⟨by rw [jv_sh_new, if_neg n], fun j => by rw [jv_I_new, if_neg n], fun j => by rw [jv_L_new, if_neg n], fun j => by rw [jv_P_new, if_neg n]⟩
theorem sm_wP {h : jv_H} {a b k : Nat} {v : Option Nat} (n : b ≠ a) : sm b h (jv_wP h a k v) := ⟨rfl, fun _ => rfl, fun _ => rfl, fun j => by rw [jv_P_wP, if_neg (fun e => n e.1)]⟩
theorem sm_wI {h : jv_H} {a b k : Nat} {v : Int32} (n : b ≠ a) : sm b h (jv_wI h a k v) := ⟨rfl, fun j => by rw [jv_I_wI, if_neg (fun e => n e.1)], fun _ => rfl, fun _ => rfl⟩
theorem nw_sh {h : jv_H} {a : Nat} {s : jv_S} : jv_sh (jv_new h a s) a = some s := by rw [jv_sh_new, if_pos rfl]
theorem nw_I {h : jv_H} {a j : Nat} {s : jv_S} : jv_I (jv_new h a s) a j = 0 := by rw [jv_I_new, if_pos rfl]
theorem nw_L {h : jv_H} {a j : Nat} {s : jv_S} : jv_L (jv_new h a s) a j = 0 := by rw [jv_L_new, if_pos rfl]
theorem nw_P {h : jv_H} {a j : Nat} {s : jv_S} : jv_P (jv_new h a s) a j = none := by rw [jv_P_new, if_pos rfl]
/-- all that was there stays, but what X says -/
def exs (X : Nat → Prop) (h h' : jv_H) : Prop := ∀ b, ¬ X b → jv_sh h b ≠ none → sm b h h'
theorem exs.rf {X : Nat → Prop} {h : jv_H} : exs X h h := fun _ _ _ => .rf
theorem exs.tr {X : Nat → Prop} {h h1 h2 : jv_H} (a : exs X h h1) (b : exs X h1 h2) : exs X h h2 := fun c n e => (a c n e).tr (b c n ((a c n e).ne e))
theorem exs.mono {X Y : Nat → Prop} {h h1 : jv_H} (a : exs X h h1) (m : ∀ b, jv_sh h b ≠ none → X b → Y b) : exs Y h h1 := fun c n e => a c (fun x => n (m c e x)) e
theorem exs.frn {x : Nat} {h h' : jv_H} (a : exs (fun b => b = x) h h') : frn x h h' := fun c n e => a c n e
theorem frn.exs {x : Nat} {h h' : jv_H} (a : frn x h h') : exs (fun b => b = x) h h' := fun c n e => a c n e
theorem exs_new {X : Nat → Prop} {h : jv_H} {a : Nat} {s : jv_S} (ha : jv_sh h a = none) : exs X h (jv_new h a s) := fun _ _ e => sm_new (ne_no ha e)
theorem exs_wP {X : Nat → Prop} {h : jv_H} {a k : Nat} {v : Option Nat} (ha : jv_sh h a = none ∨ X a) : exs X h (jv_wP h a k v) := fun b n e => sm_wP (fun q => by
  subst q
  rcases ha with ha | ha
  · exact e ha
  · exact n ha)
theorem exs.fresh {X : Nat → Prop} {h h1 : jv_H} (f : exs X h h1) {a : Nat} (ha : jv_sh h1 a = none) (n : ¬ X a) : jv_sh h a = none := by
  cases e : jv_sh h a with
  | none => rfl
  | some s =>
    have := (f a n (sh_ne e)).1
    rw [ha, e] at this
    cases this
/-- a row of n new objects of one shape, made since h1 -/
def row (h1 h : jv_H) (arr : Nat) (es : jv_S) (u : Nat → Nat) (i : Nat) : Prop := exs (fun b => b = arr) h1 h ∧ jv_sh h arr = jv_sh h1 arr ∧ jv_sh h1 arr ≠ none ∧ (∀ j, j < i → jv_P h arr j = some (u j) ∧ jv_sh h (u j) = some es ∧ jv_sh h1 (u j) = none) ∧ ∀ j k, j < i → k < i → u j = u k → j = k
theorem row.start {h1 : jv_H} {arr : Nat} {es : jv_S} {u : Nat → Nat} (n : jv_sh h1 arr ≠ none) : row h1 h1 arr es u 0 := ⟨.rf, rfl, n, fun j hj => by omega, fun j k hj => by omega⟩
theorem row.step {h1 h : jv_H} {arr a : Nat} {es : jv_S} {u : Nat → Nat} {i : Nat} (r : row h1 h arr es u i) (ha : jv_sh h a = none) : row h1 (jv_wP (jv_new h a es) arr i (some a)) arr es (fun j => if j = i then a else u j) (i + 1) := by
  obtain ⟨r1, r2, r3, r4, r5⟩ := r
  have har : arr ≠ a := ne_no ha (by rw [r2]; exact r3)
  have ha1 : jv_sh h1 a = none := r1.fresh ha (fun q => har q.symm)
  have hu : ∀ j, j < i → u j ≠ a := fun j hj q => by have := (r4 j hj).2.1; rw [q, ha] at this; cases this
  refine ⟨(r1.tr (exs_new ha)).tr (exs_wP (Or.inr rfl)), ?_, r3, fun j hj => ?_, fun j k hj hk e => ?_⟩
  · rw [jv_sh_wP, jv_sh_new, if_neg har]; exact r2
  · dsimp only
    by_cases q : j = i
    · rw [if_pos q]
      exact ⟨by rw [jv_P_wP, if_pos ⟨rfl, q⟩], by rw [jv_sh_wP, nw_sh], ha1⟩
    · rw [if_neg q]
      obtain ⟨c1, c2, c3⟩ := r4 j (by omega)
      refine ⟨by rw [jv_P_wP, if_neg (fun z => q z.2), jv_P_new, if_neg har]; exact c1, by rw [jv_sh_wP, jv_sh_new, if_neg (hu j (by omega))]; exact c2, c3⟩
  · dsimp only at e
    by_cases q : j = i <;> by_cases q2 : k = i
    · omega
    · rw [if_pos q, if_neg q2] at e
      exact absurd e.symm (hu k (by omega))
    · rw [if_neg q, if_pos q2] at e
      exact absurd e (hu j (by omega))
    · rw [if_neg q, if_neg q2] at e
      exact r5 j k (by omega) (by omega) e
theorem jv_cs {E : jv_E} {nL : Nat} {h : jv_H} {ce sl ce' sl' : Nat} {Q : State → Prop} {pc : Nat} {lo : List (Nat × Value)} {st : List Value} (hc : ce = ce') (hs : sl = sl') (k : jv_V E nL h ce' sl' Q pc lo st) : jv_V E nL h ce sl Q pc lo st := by subst hc; subst hs; exact k
/-- a new caller; a new type; a new edition -/
def nC (h0 h : jv_H) (c b4 : Nat) (u : Nat → Nat) : Prop := jv_sh h c = some (.inl 0) ∧ (∀ j, jv_I h c j = 0) ∧ jv_P h c 3 = some b4 ∧ jv_sh h b4 = some (.inr (.object "LinkArchive$Use", 20)) ∧ jv_sh h0 b4 = none ∧ (∀ j, j < 20 → jv_P h b4 j = some (u j) ∧ jv_sh h (u j) = some (.inl 6) ∧ jv_sh h0 (u j) = none) ∧ ∀ j k, j < 20 → k < 20 → u j = u k → j = k
def nT (h0 h : jv_H) (a b8 b9 b10 : Nat) (u : Nat → Nat) : Prop := jv_sh h a = some (.inl 5) ∧ (∀ j, jv_I h a j = 0) ∧ (∀ j, jv_L h a j = 0) ∧ jv_P h a 6 = some b8 ∧ jv_sh h b8 = some (.inr (.int, 3)) ∧ jv_P h a 8 = some b9 ∧ jv_sh h b9 = some (.inr (.object "LinkArchive$Member", 6)) ∧ jv_P h a 12 = some b10 ∧ jv_sh h b10 = some (.inr (.int, 10)) ∧ (∀ j, j < 6 → jv_P h b9 j = some (u j) ∧ jv_sh h (u j) = some (.inl 3) ∧ jv_sh h0 (u j) = none) ∧ (∀ j k, j < 6 → k < 6 → u j = u k → j = k) ∧ jv_sh h0 b8 = none ∧ jv_sh h0 b9 = none ∧ jv_sh h0 b10 = none
theorem exs.tr2 {X : Nat → Prop} {h h1 h2 : jv_H} {arr : Nat} (a : exs X h h1) (b : exs (fun b => b = arr) h1 h2) (ha : jv_sh h arr = none) : exs X h h2 := fun c n e => (a c n e).tr (b c (ne_no ha e) ((a c n e).ne e))
theorem nC.later {h0 h h2 : jv_H} {c b4 : Nat} {u : Nat → Nat} (r : nC h0 h c b4 u) (f : ∀ b, jv_sh h b ≠ none → b = c ∨ b = b4 ∨ (∃ j, j < 20 ∧ b = u j) → sm b h h2) : nC h0 h2 c b4 u := by
  obtain ⟨r1, r2, r3, r4, r5, r6, r7⟩ := r
  have s1 := f c (sh_ne r1) (Or.inl rfl)
  have s2 := f b4 (sh_ne r4) (Or.inr (Or.inl rfl))
  refine ⟨s1.1.trans r1, fun j => (s1.2.1 j).trans (r2 j), (s1.2.2.2 3).trans r3, s2.1.trans r4, r5, fun j hj => ?_, r7⟩
  obtain ⟨q1, q2, q3⟩ := r6 j hj
  exact ⟨(s2.2.2.2 j).trans q1, (f (u j) (sh_ne q2) (Or.inr (Or.inr ⟨j, hj, rfl⟩))).1.trans q2, q3⟩
theorem nT.later {h0 h h2 : jv_H} {a b8 b9 b10 : Nat} {u : Nat → Nat} (r : nT h0 h a b8 b9 b10 u) (f : ∀ b, jv_sh h b ≠ none → b = a ∨ b = b8 ∨ b = b9 ∨ b = b10 ∨ (∃ j, j < 6 ∧ b = u j) → sm b h h2) : nT h0 h2 a b8 b9 b10 u := by
  obtain ⟨r1, r2, r3, r4, r5, r6, r7, r8, r9, r10, r11⟩ := r
  have s1 := f a (sh_ne r1) (Or.inl rfl)
  have s8 := f b8 (sh_ne r5) (Or.inr (Or.inl rfl))
  have s9 := f b9 (sh_ne r7) (Or.inr (Or.inr (Or.inl rfl)))
  have s10 := f b10 (sh_ne r9) (Or.inr (Or.inr (Or.inr (Or.inl rfl))))
  refine ⟨s1.1.trans r1, fun j => (s1.2.1 j).trans (r2 j), fun j => (s1.2.2.1 j).trans (r3 j), (s1.2.2.2 6).trans r4, s8.1.trans r5, (s1.2.2.2 8).trans r6, s9.1.trans r7, (s1.2.2.2 12).trans r8, s10.1.trans r9, fun j hj => ?_, r11⟩
  obtain ⟨q1, q2, q3⟩ := r10 j hj
  exact ⟨(s9.2.2.2 j).trans q1, (f (u j) (sh_ne q2) (Or.inr (Or.inr (Or.inr (Or.inr ⟨j, hj, rfl⟩))))).1.trans q2, q3⟩
/-- four functions of a type's address -/
abbrev nG : Type := (Nat → Nat) × (Nat → Nat) × (Nat → Nat) × (Nat → Nat → Nat)
def gup (g : nG) (a c8 c9 c10 : Nat) (w : Nat → Nat) : nG := (fun b => if b = a then c8 else g.1 b, fun b => if b = a then c9 else g.2.1 b, fun b => if b = a then c10 else g.2.2.1 b, fun b => if b = a then w else g.2.2.2 b)
def gsm (g g' : nG) (b : Nat) : Prop := g'.1 b = g.1 b ∧ g'.2.1 b = g.2.1 b ∧ g'.2.2.1 b = g.2.2.1 b ∧ g'.2.2.2 b = g.2.2.2 b
theorem gup_n {g : nG} {a c8 c9 c10 b : Nat} {w : Nat → Nat} (n : b ≠ a) : gsm g (gup g a c8 c9 c10 w) b := ⟨if_neg n, if_neg n, if_neg n, if_neg n⟩
theorem gsm.tr {g g1 g2 : nG} {b : Nat} (x : gsm g g1 b) (y : gsm g1 g2 b) : gsm g g2 b := ⟨y.1.trans x.1, y.2.1.trans x.2.1, y.2.2.1.trans x.2.2.1, y.2.2.2.trans x.2.2.2⟩
def nTg (h0 h : jv_H) (g : nG) (a : Nat) : Prop := nT h0 h a (g.1 a) (g.2.1 a) (g.2.2.1 a) (g.2.2.2 a)
def alT (h : jv_H) (g : nG) (a : Nat) : Prop := jv_sh h a ≠ none ∧ jv_sh h (g.1 a) ≠ none ∧ jv_sh h (g.2.1 a) ≠ none ∧ jv_sh h (g.2.2.1 a) ≠ none ∧ ∀ m, m < 6 → jv_sh h (g.2.2.2 a m) ≠ none
theorem nTg.al {h0 h : jv_H} {g : nG} {a : Nat} (q6 : nTg h0 h g a) : alT h g a := ⟨sh_ne q6.1, sh_ne q6.2.2.2.2.1, sh_ne q6.2.2.2.2.2.2.1, sh_ne q6.2.2.2.2.2.2.2.2.1, fun m hm => sh_ne (q6.2.2.2.2.2.2.2.2.2.1 m hm).2.1⟩
theorem gsm.T {h0 h : jv_H} {g g' : nG} {a : Nat} (e : gsm g g' a) (r : nTg h0 h g a) : nTg h0 h g' a := by
  unfold nTg
  rw [e.1, e.2.1, e.2.2.1, e.2.2.2]
  exact r
theorem gsm.al {h : jv_H} {g g' : nG} {a : Nat} (e : gsm g g' a) (r : alT h g a) : alT h g' a := by
  unfold alT
  rw [e.1, e.2.1, e.2.2.1, e.2.2.2]
  exact r
theorem alT.mono {h h' : jv_H} {g : nG} {a : Nat} (r : alT h g a) (f : ∀ b, jv_sh h b ≠ none → jv_sh h' b ≠ none) : alT h' g a := ⟨f _ r.1, f _ r.2.1, f _ r.2.2.1, f _ r.2.2.2.1, fun m hm => f _ (r.2.2.2.2 m hm)⟩
/-- a row of i new types, made since h1 -/
def rowT (h1 h : jv_H) (arr : Nat) (g0 g : nG) (u : Nat → Nat) (i : Nat) : Prop := exs (fun b => b = arr) h1 h ∧ jv_sh h arr = jv_sh h1 arr ∧ jv_sh h1 arr ≠ none ∧ (∀ b, jv_sh h1 b ≠ none → gsm g0 g b) ∧ ∀ j, j < i → ∃ hj : jv_H, exs (fun b => b = arr) h1 hj ∧ jv_sh hj arr = jv_sh h1 arr ∧ jv_P h arr j = some (u j) ∧ jv_sh hj (u j) = none ∧ nTg hj h g (u j) ∧ ∀ k, k < j → alT hj g (u k)
theorem rowT.start {h1 : jv_H} {arr : Nat} {g : nG} {u : Nat → Nat} (n : jv_sh h1 arr ≠ none) : rowT h1 h1 arr g g u 0 := ⟨.rf, rfl, n, fun _ _ => ⟨rfl, rfl, rfl, rfl⟩, fun j hj => by omega⟩
def fup (f : Nat → Nat) (i a : Nat) : Nat → Nat := fun j => if j = i then a else f j
theorem fup_s (f : Nat → Nat) (i a : Nat) : fup f i a i = a := if_pos rfl
theorem fup_n {f : Nat → Nat} {i a j : Nat} (h : j ≠ i) : fup f i a j = f j := if_neg h
theorem rowT.step {h1 h h2 : jv_H} {arr a c8 c9 c10 : Nat} {g0 g : nG} {u w : Nat → Nat} {i : Nat} (r : rowT h1 h arr g0 g u i) (ha : jv_sh h a = none) (fx : exs (fun b => b = a) (jv_new h a (.inl 5)) h2) (nt : nT (jv_new h a (.inl 5)) h2 a c8 c9 c10 w) : rowT h1 (jv_wP h2 arr i (some a)) arr g0 (gup g a c8 c9 c10 w) (fup u i a) (i + 1) := by
  obtain ⟨r1, r2, r3, rg, r4⟩ := r
  have har : arr ≠ a := ne_no ha (by rw [r2]; exact r3)
  have fx2 : exs (fun _ => False) h h2 := fun b _ e => (sm_new (ne_no ha e)).tr (fx b (ne_no ha e) (by rw [(sm_new (ne_no ha e)).1]; exact e))
  have h0 : ∀ b, jv_sh (jv_new h a (.inl 5)) b = none → jv_sh h b = none := fun b q => by
    rw [jv_sh_new] at q
    split at q
    · cases q
    · exact q
  have nt2 : nT h (jv_wP h2 arr i (some a)) a c8 c9 c10 w := by
    have hw := nt.later (h2 := jv_wP h2 arr i (some a)) (fun b e q => sm_wP (fun y => by
      subst y
      have e1 : jv_sh h b ≠ none := by rw [r2]; exact r3
      have e2 := h0 b
      rcases q with q | q | q | q | ⟨j, hj, q⟩
      · exact har q
      · exact e1 (e2 (by rw [q]; exact nt.2.2.2.2.2.2.2.2.2.2.2.1))
      · exact e1 (e2 (by rw [q]; exact nt.2.2.2.2.2.2.2.2.2.2.2.2.1))
      · exact e1 (e2 (by rw [q]; exact nt.2.2.2.2.2.2.2.2.2.2.2.2.2))
      · exact e1 (e2 (by rw [q]; exact (nt.2.2.2.2.2.2.2.2.2.1 j hj).2.2))))
    obtain ⟨w1, w2, w3, w4, w5, w6, w7, w8, w9, w10, w11, w12, w13, w14⟩ := hw
    exact ⟨w1, w2, w3, w4, w5, w6, w7, w8, w9, fun j hj => ⟨(w10 j hj).1, (w10 j hj).2.1, h0 _ (w10 j hj).2.2⟩, w11, h0 _ w12, h0 _ w13, h0 _ w14⟩
  have arr2 : sm arr h h2 := fx2 arr (fun q => q) (by rw [r2]; exact r3)
  have kee : ∀ b, jv_sh h b ≠ none → b ≠ arr → sm b h (jv_wP h2 arr i (some a)) := fun b e n => (fx2 b (fun q => q) e).tr (sm_wP n)
  have nua : ∀ k, k < i → u k ≠ a := fun k hk => by
    obtain ⟨hj', -, -, -, -, q6, -⟩ := r4 k hk
    exact ne_no ha q6.al.1
  refine ⟨fun b n e => (r1 b n e).tr (kee b ((r1 b n e).ne e) n), by rw [jv_sh_wP, arr2.1]; exact r2, r3, fun b e => (rg b e).tr (gup_n (fun y => ?_)), fun j hj => ?_⟩
  · subst y
    by_cases y : b = arr
    · exact har y.symm
    · exact (r1 b y e).ne e ha
  · by_cases q : j = i
    · subst q
      rw [fup_s]
      refine ⟨h, r1, r2, by rw [jv_P_wP, if_pos ⟨rfl, rfl⟩], ha, ?_, fun k hk => ?_⟩
      · unfold nTg gup
        dsimp only
        rw [if_pos rfl, if_pos rfl, if_pos rfl, if_pos rfl]
        exact nt2
      · rw [fup_n (show k ≠ j by omega)]
        obtain ⟨hj', -, -, -, -, q6, -⟩ := r4 k hk
        exact (gup_n (nua k hk)).al q6.al
    · rw [fup_n q]
      have hji : j < i := by omega
      obtain ⟨hj', q1, q2, q3, q4, q6, q7⟩ := r4 j hji
      have q6' := (gup_n (g := g) (c8 := c8) (c9 := c9) (c10 := c10) (w := w) (nua j hji)).T q6
      refine ⟨hj', q1, q2, ?_, q4, ?_, fun k hk => ?_⟩
      · rw [jv_P_wP, if_neg (fun y => q y.2), arr2.2.2.2 j]
        exact q3
      · refine nT.later q6' (fun b e y => kee b e (fun y2 => ?_))
        subst y2
        have na : jv_sh hj' b ≠ none := by rw [q2]; exact r3
        rcases y with y | y | y | y | ⟨m, hm, y⟩
        · rw [y] at na; exact na q4
        · rw [y] at na; exact na q6'.2.2.2.2.2.2.2.2.2.2.2.1
        · rw [y] at na; exact na q6'.2.2.2.2.2.2.2.2.2.2.2.2.1
        · rw [y] at na; exact na q6'.2.2.2.2.2.2.2.2.2.2.2.2.2
        · rw [y] at na; exact na (q6'.2.2.2.2.2.2.2.2.2.1 m hm).2.2
      · rw [fup_n (show k ≠ i by omega)]
        exact (gup_n (nua k (by omega))).al (q7 k hk)
/-- a new edition -/
def nE (h0 h : jv_H) (g0 g : nG) (c e b1 b2 : Nat) (u : Nat → Nat) : Prop := jv_sh h c = some (.inl 2) ∧ jv_I h c 0 = nI e ∧ (∀ j, j ≠ 0 → jv_I h c j = 0) ∧ jv_P h c 2 = some b1 ∧ jv_sh h b1 = some (.inr (.object "LinkArchive$Type", 10)) ∧ jv_P h c 4 = some b2 ∧ jv_sh h b2 = some (.inr (.object "LinkArchive$Type", 16)) ∧ (∀ j, jv_P h b2 j = none) ∧ jv_sh h0 b1 = none ∧ jv_sh h0 b2 = none ∧ ∃ h1, exs (fun b => b = c) h0 h1 ∧ jv_sh h1 c ≠ none ∧ jv_sh h1 b2 ≠ none ∧ rowT h1 h b1 g0 g u 10
