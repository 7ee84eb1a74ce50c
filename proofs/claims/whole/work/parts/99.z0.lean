/-! THE CONSTRUCTOR OF THE WHOLE: rows of editions and of callers -/
section ZR
variable {h h0 h1 h2 hj : jv_H} {g g0 g' : nG}
theorem fr1 {x b : Nat} (f : exs (fun b => b = x) h0 h1) (hx : jv_sh h1 x ≠ none) (hb : jv_sh h1 b = none) : jv_sh h0 b = none := f.fresh hb (fun q => hx (by rw [← q]; exact hb))
def tyB (g : nG) (a b : Nat) : Prop := b = a ∨ b = g.1 a ∨ b = g.2.1 a ∨ b = g.2.2.1 a ∨ ∃ j, j < 6 ∧ b = g.2.2.2 a j
def edB (g : nG) (c b1 b2 : Nat) (t : Nat → Nat) (b : Nat) : Prop := b = c ∨ b = b1 ∨ b = b2 ∨ ∃ k, k < 10 ∧ tyB g (t k) b
theorem nTg.fr {a b : Nat} (r : nTg hj h g a) (ha : jv_sh hj a = none) (y : tyB g a b) : jv_sh hj b = none := by
  obtain ⟨-, -, -, -, -, -, -, -, -, r10, -, r12, r13, r14⟩ := r
  rcases y with y | y | y | y | ⟨j, hj', y⟩ <;> rw [y]
  · exact ha
  · exact r12
  · exact r13
  · exact r14
  · exact (r10 j hj').2.2
theorem alT.B {a b : Nat} (r : alT h g a) (y : tyB g a b) : jv_sh h b ≠ none := by
  obtain ⟨r1, r2, r3, r4, r5⟩ := r
  rcases y with y | y | y | y | ⟨j, hj', y⟩ <;> rw [y]
  · exact r1
  · exact r2
  · exact r3
  · exact r4
  · exact r5 j hj'
theorem gsm.B {a b : Nat} (e : gsm g g' a) (y : tyB g' a b) : tyB g a b := by
  unfold tyB at y ⊢
  rw [e.1, e.2.1, e.2.2.1, e.2.2.2] at y
  exact y
def ed1 (h : jv_H) (g : nG) (c e b1 b2 : Nat) (t : Nat → Nat) : Prop := jv_sh h c = some (.inl 2) ∧ jv_I h c 0 = nI e ∧ (∀ j, j ≠ 0 → jv_I h c j = 0) ∧ jv_P h c 2 = some b1 ∧ jv_sh h b1 = some (.inr (.object "LinkArchive$Type", 10)) ∧ jv_P h c 4 = some b2 ∧ jv_sh h b2 = some (.inr (.object "LinkArchive$Type", 16)) ∧ (∀ j, jv_P h b2 j = none) ∧ (∀ k, k < 10 → jv_P h b1 k = some (t k) ∧ ∃ h0, nTg h0 h g (t k)) ∧ ∀ k k' b, k < 10 → k' < 10 → tyB g (t k) b → tyB g (t k') b → k = k'
theorem nE.ed {c e b1 b2 : Nat} {u : Nat → Nat} (r : nE h0 h g0 g c e b1 b2 u) : ed1 h g c e b1 b2 u ∧ (∀ b, edB g c b1 b2 u b → b = c ∨ jv_sh h0 b = none) ∧ (∀ b, edB g c b1 b2 u b → jv_sh h b ≠ none) ∧ ∀ b, jv_sh h0 b ≠ none → gsm g0 g b := by
  obtain ⟨r1, r2, r3, r4, r5, r6, r7, r8, r9, r10, h1, f1, a1, a2, w1, w2, w3, w4, w5⟩ := r
  refine ⟨⟨r1, r2, r3, r4, r5, r6, r7, r8, fun k hk => ?_, fun k k' b hk hk' y y' => ?_⟩, fun b y => ?_, fun b y => ?_, fun b e => w4 b ?_⟩
  · obtain ⟨hj, q1, q2, q3, q4, q5, q6⟩ := w5 k hk
    exact ⟨q3, hj, q5⟩
  · obtain ⟨hj, q1, q2, q3, q4, q5, q6⟩ := w5 k hk
    obtain ⟨hj', p1, p2, p3, p4, p5, p6⟩ := w5 k' hk'
    rcases Nat.lt_trichotomy k k' with q | q | q
    · exact absurd (p5.fr p4 y') ((p6 k q).B y)
    · exact q
    · exact absurd (q5.fr q4 y) ((q6 k' q).B y')
  · rcases y with y | y | y | ⟨k, hk, y⟩
    · exact Or.inl y
    · rw [y]; exact Or.inr r9
    · rw [y]; exact Or.inr r10
    · obtain ⟨hj, q1, q2, q3, q4, q5, q6⟩ := w5 k hk
      have f := q5.fr q4 y
      exact Or.inr (fr1 f1 a1 (fr1 q1 (by rw [q2]; exact w3) f))
  · rcases y with y | y | y | ⟨k, hk, y⟩
    · rw [y]; exact sh_ne r1
    · rw [y]; exact sh_ne r5
    · rw [y]; exact sh_ne r7
    · obtain ⟨hj, q1, q2, q3, q4, q5, q6⟩ := w5 k hk
      exact q5.al.B y
  · by_cases q : b = c
    · rw [q]; exact a1
    · exact (f1 b q e).ne e
theorem ed1.later {c e b1 b2 : Nat} {t : Nat → Nat} (r : ed1 h g c e b1 b2 t) (f : ∀ b, edB g c b1 b2 t b → sm b h h2) (eg : ∀ k, k < 10 → gsm g g' (t k)) : ed1 h2 g' c e b1 b2 t := by
  obtain ⟨r1, r2, r3, r4, r5, r6, r7, r8, r9, r10⟩ := r
  have sc := f c (Or.inl rfl)
  have s1 := f b1 (Or.inr (Or.inl rfl))
  have s2 := f b2 (Or.inr (Or.inr (Or.inl rfl)))
  refine ⟨sc.1.trans r1, (sc.2.1 0).trans r2, fun j hj => (sc.2.1 j).trans (r3 j hj), (sc.2.2.2 2).trans r4, s1.1.trans r5, (sc.2.2.2 4).trans r6, s2.1.trans r7, fun j => (s2.2.2.2 j).trans (r8 j), fun k hk => ?_, fun k k' b hk hk' y y' => r10 k k' b hk hk' ((eg k hk).B y) ((eg k' hk').B y')⟩
  obtain ⟨q1, hj, q2⟩ := r9 k hk
  exact ⟨(s1.2.2.2 k).trans q1, hj, (eg k hk).T (nT.later q2 (fun b _ y => f b (Or.inr (Or.inr (Or.inr ⟨k, hk, y⟩)))))⟩
/-- i new editions, made since h1 -/
def rowE (h1 h : jv_H) (arr : Nat) (g : nG) (u b1 b2 : Nat → Nat) (t : Nat → Nat → Nat) (i : Nat) : Prop := exs (fun b => b = arr) h1 h ∧ jv_sh h arr = jv_sh h1 arr ∧ jv_sh h1 arr ≠ none ∧ (∀ e, e < i → jv_P h arr e = some (u e) ∧ ed1 h g (u e) e (b1 e) (b2 e) (t e) ∧ ∀ b, edB g (u e) (b1 e) (b2 e) (t e) b → jv_sh h1 b = none ∧ jv_sh h b ≠ none) ∧ ∀ e e' b, e < i → e' < i → edB g (u e) (b1 e) (b2 e) (t e) b → edB g (u e') (b1 e') (b2 e') (t e') b → e = e'
theorem rowE.start {arr : Nat} {u b1 b2 : Nat → Nat} {t : Nat → Nat → Nat} (n : jv_sh h1 arr ≠ none) : rowE h1 h1 arr g u b1 b2 t 0 := ⟨.rf, rfl, n, fun e he => by omega, fun e e' b he => by omega⟩
def tup (t : Nat → Nat → Nat) (i : Nat) (w : Nat → Nat) : Nat → Nat → Nat := fun j => if j = i then w else t j
theorem tup_s (t : Nat → Nat → Nat) (i : Nat) (w : Nat → Nat) : tup t i w i = w := if_pos rfl
theorem tup_n {t : Nat → Nat → Nat} {i j : Nat} {w : Nat → Nat} (h : j ≠ i) : tup t i w j = t j := if_neg h
theorem rowE.step {arr a c1 c2 i : Nat} {u b1 b2 w : Nat → Nat} {t : Nat → Nat → Nat} (r : rowE h1 h arr g u b1 b2 t i) (ha : jv_sh h a = none) (fx : exs (fun b => b = a) (jv_new h a (.inl 2)) h2) (ne : nE (jv_new h a (.inl 2)) h2 g g' a i c1 c2 w) : rowE h1 (jv_wP h2 arr i (some a)) arr g' (fup u i a) (fup b1 i c1) (fup b2 i c2) (tup t i w) (i + 1) := by
  obtain ⟨r1, r2, r3, r4, r5⟩ := r
  have al : jv_sh h arr ≠ none := by rw [r2]; exact r3
  have har : arr ≠ a := ne_no ha al
  have fx2 : exs (fun _ => False) h h2 := fun b _ e => (sm_new (ne_no ha e)).tr (fx b (ne_no ha e) (by rw [(sm_new (ne_no ha e)).1]; exact e))
  have hn : ∀ b, jv_sh (jv_new h a (.inl 2)) b = none → jv_sh h b = none := fun b q => by
    rw [jv_sh_new] at q
    split at q
    · cases q
    · exact q
  obtain ⟨e1, e2, e3, e4⟩ := ne.ed
  have nf : ∀ b, edB g' a c1 c2 w b → jv_sh h b = none := fun b y => by
    rcases e2 b y with q | q
    · rw [q]; exact ha
    · exact hn b q
  have arr2 : sm arr h h2 := fx2 arr (fun q => q) al
  have kee : ∀ b, jv_sh h b ≠ none → b ≠ arr → sm b h (jv_wP h2 arr i (some a)) := fun b e n => (fx2 b (fun q => q) e).tr (sm_wP n)
  have gs : ∀ b, jv_sh h b ≠ none → gsm g g' b := fun b e => e4 b (by rw [(sm_new (ne_no ha e)).1]; exact e)
  have nsm : ∀ b, edB g' a c1 c2 w b → sm b h2 (jv_wP h2 arr i (some a)) := fun b y => sm_wP (fun q => al (by rw [← q]; exact nf b y))
  have oB : ∀ e, e < i → ∀ b, edB g' (u e) (b1 e) (b2 e) (t e) b → edB g (u e) (b1 e) (b2 e) (t e) b := fun e he b y => by
    rcases y with y | y | y | ⟨k, hk, y⟩
    · exact Or.inl y
    · exact Or.inr (Or.inl y)
    · exact Or.inr (Or.inr (Or.inl y))
    · refine Or.inr (Or.inr (Or.inr ⟨k, hk, (gs _ ?_).B y⟩))
      exact ((r4 e he).2.2 _ (Or.inr (Or.inr (Or.inr ⟨k, hk, Or.inl rfl⟩)))).2
  refine ⟨fun b n e => (r1 b n e).tr (kee b ((r1 b n e).ne e) n), by rw [jv_sh_wP, arr2.1]; exact r2, r3, fun e he => ?_, fun e e' b he he' y y' => ?_⟩
  · by_cases q : e = i
    · subst q
      rw [fup_s, fup_s, fup_s, tup_s]
      refine ⟨by rw [jv_P_wP, if_pos ⟨rfl, rfl⟩], e1.later nsm (fun k hk => ⟨rfl, rfl, rfl, rfl⟩), fun b y => ⟨?_, (nsm b y).ne (e3 b y)⟩⟩
      exact r1.fresh (nf b y) (fun q => al (by rw [← q]; exact nf b y))
    · have hei : e < i := by omega
      rw [fup_n q, fup_n q, fup_n q, tup_n q]
      obtain ⟨q1, q2, q3⟩ := r4 e hei
      have sm1 : ∀ b, edB g (u e) (b1 e) (b2 e) (t e) b → sm b h (jv_wP h2 arr i (some a)) := fun b y => kee b (q3 b y).2 (fun z => r3 (by rw [← z]; exact (q3 b y).1))
      refine ⟨by rw [jv_P_wP, if_neg (fun z => q z.2), arr2.2.2.2 e]; exact q1, q2.later sm1 (fun k hk => gs _ (q3 _ (Or.inr (Or.inr (Or.inr ⟨k, hk, Or.inl rfl⟩)))).2), fun b y => ?_⟩
      have y := oB e hei b y
      exact ⟨(q3 b y).1, (sm1 b y).ne (q3 b y).2⟩
  · by_cases q : e = i <;> by_cases q' : e' = i
    · omega
    · rw [q, fup_s, fup_s, fup_s, tup_s] at y
      rw [fup_n q', fup_n q', fup_n q', tup_n q'] at y'
      exact absurd (nf b y) ((r4 e' (by omega)).2.2 b (oB e' (by omega) b y')).2
    · rw [q', fup_s, fup_s, fup_s, tup_s] at y'
      rw [fup_n q, fup_n q, fup_n q, tup_n q] at y
      exact absurd (nf b y') ((r4 e (by omega)).2.2 b (oB e (by omega) b y)).2
    · rw [fup_n q, fup_n q, fup_n q, tup_n q] at y
      rw [fup_n q', fup_n q', fup_n q', tup_n q'] at y'
      exact r5 e e' b (by omega) (by omega) (oB e (by omega) b y) (oB e' (by omega) b y')
def caB (c b4 : Nat) (v : Nat → Nat) (b : Nat) : Prop := b = c ∨ b = b4 ∨ ∃ j, j < 20 ∧ b = v j
theorem nC.fr {c b4 b : Nat} {v : Nat → Nat} (r : nC hj h c b4 v) (hc : jv_sh hj c = none) (y : caB c b4 v b) : jv_sh hj b = none := by
  rcases y with y | y | ⟨j, hj', y⟩ <;> rw [y]
  · exact hc
  · exact r.2.2.2.2.1
  · exact (r.2.2.2.2.2.1 j hj').2.2
theorem nC.al {c b4 b : Nat} {v : Nat → Nat} (r : nC hj h c b4 v) (y : caB c b4 v b) : jv_sh h b ≠ none := by
  rcases y with y | y | ⟨j, hj', y⟩ <;> rw [y]
  · exact sh_ne r.1
  · exact sh_ne r.2.2.2.1
  · exact sh_ne (r.2.2.2.2.2.1 j hj').2.1
/-- i new callers, made since h1 -/
def rowC (h1 h : jv_H) (arr : Nat) (u b4 : Nat → Nat) (v : Nat → Nat → Nat) (i : Nat) : Prop := exs (fun b => b = arr) h1 h ∧ jv_sh h arr = jv_sh h1 arr ∧ jv_sh h1 arr ≠ none ∧ (∀ c, c < i → jv_P h arr c = some (u c) ∧ (∃ h0, nC h0 h (u c) (b4 c) (v c)) ∧ ∀ b, caB (u c) (b4 c) (v c) b → jv_sh h1 b = none) ∧ ∀ c c' b, c < i → c' < i → caB (u c) (b4 c) (v c) b → caB (u c') (b4 c') (v c') b → c = c'
theorem rowC.start {arr : Nat} {u b4 : Nat → Nat} {v : Nat → Nat → Nat} (n : jv_sh h1 arr ≠ none) : rowC h1 h1 arr u b4 v 0 := ⟨.rf, rfl, n, fun e he => by omega, fun e e' b he => by omega⟩
theorem rowC.step {arr a c4 i : Nat} {u b4 w : Nat → Nat} {v : Nat → Nat → Nat} (r : rowC h1 h arr u b4 v i) (ha : jv_sh h a = none) (fx : exs (fun b => b = a) (jv_new h a (.inl 0)) h2) (ne : nC (jv_new h a (.inl 0)) h2 a c4 w) : rowC h1 (jv_wP h2 arr i (some a)) arr (fup u i a) (fup b4 i c4) (tup v i w) (i + 1) := by
  obtain ⟨r1, r2, r3, r4, r5⟩ := r
  have al : jv_sh h arr ≠ none := by rw [r2]; exact r3
  have har : arr ≠ a := ne_no ha al
  have fx2 : exs (fun _ => False) h h2 := fun b _ e => (sm_new (ne_no ha e)).tr (fx b (ne_no ha e) (by rw [(sm_new (ne_no ha e)).1]; exact e))
  have hn : ∀ b, jv_sh (jv_new h a (.inl 0)) b = none → jv_sh h b = none := fun b q => by
    rw [jv_sh_new] at q
    split at q
    · cases q
    · exact q
  have nf : ∀ b, caB a c4 w b → jv_sh h b = none := fun b y => by
    rcases y with y | y | ⟨j, hj', y⟩ <;> rw [y]
    · exact ha
    · exact hn _ ne.2.2.2.2.1
    · exact hn _ (ne.2.2.2.2.2.1 j hj').2.2
  have arr2 : sm arr h h2 := fx2 arr (fun q => q) al
  have kee : ∀ b, jv_sh h b ≠ none → b ≠ arr → sm b h (jv_wP h2 arr i (some a)) := fun b e n => (fx2 b (fun q => q) e).tr (sm_wP n)
  have nsm : ∀ b, caB a c4 w b → sm b h2 (jv_wP h2 arr i (some a)) := fun b y => sm_wP (fun q => al (by rw [← q]; exact nf b y))
  refine ⟨fun b n e => (r1 b n e).tr (kee b ((r1 b n e).ne e) n), by rw [jv_sh_wP, arr2.1]; exact r2, r3, fun e he => ?_, fun e e' b he he' y y' => ?_⟩
  · by_cases q : e = i
    · subst q
      rw [fup_s, fup_s, tup_s]
      exact ⟨by rw [jv_P_wP, if_pos ⟨rfl, rfl⟩], ⟨_, ne.later (fun b _ y => nsm b y)⟩, fun b y => r1.fresh (nf b y) (fun q => al (by rw [← q]; exact nf b y))⟩
    · have hei : e < i := by omega
      rw [fup_n q, fup_n q, tup_n q]
      obtain ⟨q1, ⟨hq, q2⟩, q3⟩ := r4 e hei
      exact ⟨by rw [jv_P_wP, if_neg (fun z => q z.2), arr2.2.2.2 e]; exact q1, ⟨hq, q2.later (fun b e' y => kee b e' (fun z => r3 (by rw [← z]; exact q3 b y)))⟩, q3⟩
  · by_cases q : e = i <;> by_cases q' : e' = i
    · omega
    · rw [q, fup_s, fup_s, tup_s] at y
      rw [fup_n q', fup_n q', tup_n q'] at y'
      obtain ⟨-, ⟨hq, q2⟩, -⟩ := r4 e' (by omega)
      exact absurd (nf b y) (q2.al y')
    · rw [q', fup_s, fup_s, tup_s] at y'
      rw [fup_n q, fup_n q, tup_n q] at y
      obtain ⟨-, ⟨hq, q2⟩, -⟩ := r4 e (by omega)
      exact absurd (nf b y') (q2.al y)
    · rw [fup_n q, fup_n q, tup_n q] at y
      rw [fup_n q', fup_n q', tup_n q'] at y'
      exact r5 e e' b (by omega) (by omega) y y'
end ZR
