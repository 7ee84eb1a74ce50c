/-! what stays when more is made; the constructor's stages -/
section ZG
variable {z : Nat → Nat → Nat} {T : Nat → Nat} {N : Nat → Nat → Nat} {tO : Nat → Nat} {h h1 h2 : jv_H} {M : mA}
def gF (h h1 : jv_H) : Prop := ∀ b, jv_sh h b ≠ none → sm b h h1
theorem gF.s (f : gF h h1) {b : Nat} {s : jv_S} (e : jv_sh h b = some s) : jv_sh h1 b = some s := (f b (sh_ne e)).1.trans e
theorem gF.i (f : gF h h1) {b : Nat} {s : jv_S} (e : jv_sh h b = some s) (j : Nat) : jv_I h1 b j = jv_I h b j := (f b (sh_ne e)).2.1 j
theorem gF.l (f : gF h h1) {b : Nat} {s : jv_S} (e : jv_sh h b = some s) (j : Nat) : jv_L h1 b j = jv_L h b j := (f b (sh_ne e)).2.2.1 j
theorem gF.p (f : gF h h1) {b : Nat} {s : jv_S} (e : jv_sh h b = some s) (j : Nat) : jv_P h1 b j = jv_P h b j := (f b (sh_ne e)).2.2.2 j
theorem gF.t (f : gF h h1) {a : Nat} (r : cl_t z N h a) : cl_t z N h1 a := by
  obtain ⟨r1, r2, r3, r4, r5, r6, r7, r8⟩ := r
  exact ⟨f.s r1, (f.p r1 6).trans r2, f.s r3, (f.p r1 8).trans r4, f.s r5, (f.p r1 12).trans r6, f.s r7, fun j hj => ⟨(f.p r5 j).trans (r8 j hj).1, f.s (r8 j hj).2⟩⟩
theorem gF.E (f : gF h h1) {e : Nat} {ts : List mT} (r : cv_E z T N h e ts) : cv_E z T N h1 e ts := by
  obtain ⟨⟨r1, r2, r3, r4, r5, r6, r7⟩, r8, r9, r10, r11, r12⟩ := r
  refine ⟨⟨f.s r1, (f.p r1 2).trans r2, f.s r3, (f.p r1 4).trans r4, f.s r5, (f.i r1 0).trans r6, fun k hk => (f.p r3 k).trans (r7 k hk)⟩, fun k hk => f.t (r8 k hk), (f.i r1 3).trans r9, r10, fun k t ht => ?_, fun m hm => (f.p r5 m).trans (r12 m hm)⟩
  obtain ⟨q, qo⟩ := r11 k t ht
  have hk : k < 10 := by have := jv_ltGet ht; omega
  have tl := r8 k hk
  refine ⟨⟨(f.i tl.1 0).trans q.1, (f.i tl.1 1).trans q.2.1, (f.i tl.1 2).trans q.2.2.1, (f.i tl.1 3).trans q.2.2.2.1, (f.i tl.1 4).trans q.2.2.2.2.1, (f.i tl.1 5).trans q.2.2.2.2.2.1, (f.i tl.1 7).trans q.2.2.2.2.2.2.1, (f.i tl.1 9).trans q.2.2.2.2.2.2.2.1, (f.l tl.1 10).trans q.2.2.2.2.2.2.2.2.1, (f.l tl.1 11).trans q.2.2.2.2.2.2.2.2.2.1, fun j v y => (f.i tl.2.2.1 j).trans (ct_f q y), fun j m y => ?_⟩, qo⟩
  have hj : j < 6 := by have := jv_ltGet y; have := qo.2.2.2.2.2.1; omega
  have s3 := (tl.2.2.2.2.2.2.2 j hj).2
  have c := ct_m q y
  exact ⟨(f.i s3 0).trans c.1, (f.i s3 1).trans c.2.1, (f.i s3 2).trans c.2.2.1, (f.i s3 3).trans c.2.2.2.1, (f.i s3 4).trans c.2.2.2.2.1, (f.i s3 5).trans c.2.2.2.2.2⟩
theorem gF.U (f : gF h h1) {e : Nat} {ts : List mT} {Us : Nat → List Nat} (hE : cv_E z T N h e ts) (r : cv_Us z T h e ts Us) : cv_Us z T h1 e ts Us := fun k hk => by
  have tl := hE.2.1 k (by have := hE.2.2.2.1; omega)
  obtain ⟨⟨u1, u2, u3⟩, u4⟩ := r k hk
  exact ⟨⟨(f.i tl.1 13).trans u1, (f.i tl.1 14).trans u2, fun j v y => (f.i tl.2.2.2.2.2.2.1 j).trans (u3 j v y)⟩, u4⟩
theorem gF.dS (f : gF h h1) {s : mS} {L : List mR} (r : dS z h s L) : dS z h1 s L := by
  obtain ⟨lk, ⟨m1, m2⟩, d, c0⟩ := r
  have ai : ∀ k, 3 ≤ k → k ≤ 9 → ∀ j, jv_I h1 (z 7 k) j = jv_I h (z 7 k) j := fun k a b j => f.i (lk.2.1 k a b).2 j
  have al : ∀ k, 3 ≤ k → k ≤ 9 → ∀ j, jv_L h1 (z 7 k) j = jv_L h (z 7 k) j := fun k a b j => f.l (lk.2.1 k a b).2 j
  refine ⟨⟨f.s lk.1, fun k a b => ⟨(f.p lk.1 k).trans (lk.2.1 k a b).1, f.s (lk.2.1 k a b).2⟩, lk.2.2⟩, ⟨fun K hK => (ai 8 (by decide) (by decide) K).trans (m1 K hK), fun r hr => ?_⟩, fun i r hr => ?_, (f.i lk.1 0).trans c0⟩
  · obtain ⟨m, e1, e2⟩ := m2 r hr
    exact ⟨m, (al 9 (by decide) (by decide) r).trans e1, e2⟩
  · obtain ⟨d1, d2, d3, d4, d5⟩ := d i r hr
    exact ⟨(ai 3 (by decide) (by decide) i).trans d1, (ai 4 (by decide) (by decide) i).trans d2, (ai 5 (by decide) (by decide) i).trans d3, (ai 6 (by decide) (by decide) i).trans d4, (ai 7 (by decide) (by decide) i).trans d5⟩
/-- the class's state stays when more is made -/
theorem cl_R.gr (hR : cl_R z T N tO h M) (f : gF h h1) (n : ∀ b, jv_sh h b = none → tO b = b) : cl_R z T N tO h1 M := by
  obtain ⟨⟨a, nn, ee, eo⟩, ⟨c, cc⟩, k, fi, p, d⟩ := hR
  have a0 := a
  obtain ⟨r1, r2, r3, r4, r5, r6, r7, r8, r9, r10, r11⟩ := a
  refine ⟨⟨⟨f.s r1, (f.p r1 0).trans r2, f.s r3, (f.p r1 2).trans r4, f.s r5, (f.p r1 4).trans r6, (f.p r1 5).trans r7, (f.p r1 6).trans r8, f.s r9, fun e he => (f.p r3 e).trans (r10 e he), fun c hc => (f.p r5 c).trans (r11 c hc)⟩, ⟨(f.i r1 1).trans nn.1, nn.2.1, (f.i r1 3).trans nn.2.2.1, nn.2.2.2⟩, fun x hx => ?_, eo⟩, ⟨fun x hx => ?_, fun x C hC => ⟨?_, (cc x C hC).2⟩⟩, ⟨?_, ?_⟩, fun x y hx hy => ?_, ⟨f.s p.1, (f.p p.1 0).trans p.2.1, (f.p p.1 1).trans p.2.2.1, f.s p.2.2.2.1, f.s p.2.2.2.2⟩, d.1, d.2.1, d.2.2.1, d.2.2.2.1, fun u hu => f.s (d.2.2.2.2.1 u hu), fun b s hs hn => ?_⟩
  · obtain ⟨e1, e2, e3, e4⟩ := ee x hx
    exact ⟨f.E e1, e2, (f.i e1.1.1 1).trans e3, fun q => f.U e1 (e4 q)⟩
  · obtain ⟨c1, c2, c3, c4⟩ := c x hx
    exact ⟨f.s c1, (f.p c1 3).trans c2, f.s c3, fun j hj => (f.p c3 j).trans (c4 j hj)⟩
  · obtain ⟨⟨⟨q1, q2, q3, q4⟩, q5, q6⟩, -⟩ := cc x C hC
    refine ⟨⟨f.s q1, (f.i q1 0).trans q2, (f.i q1 1).trans q3, (f.i q1 2).trans q4⟩, (f.i q1 4).trans q5, fun j U hU => ?_⟩
    obtain ⟨⟨u1, u2, u3, u4, u5, u6, u7⟩, u8⟩ := q6 j U hU
    exact ⟨⟨f.s u1, (f.i u1 0).trans u2, (f.i u1 1).trans u3, (f.i u1 2).trans u4, (f.i u1 3).trans u5, (f.i u1 4).trans u6, (f.i u1 5).trans u7⟩, u8⟩
  · obtain ⟨⟨k1, k2, k3⟩, -⟩ := k
    exact ⟨f.s k1, fun j a b => ⟨(f.p k1 j).trans (k2 j a b).1, f.s (k2 j a b).2⟩, k3⟩
  · have k1 := k.1.1
    rcases k.2 with q | ⟨a, b, q1, q2, q3, q4, q5, q6, q7⟩
    · exact Or.inl ((f.i k1 1).trans q)
    · exact Or.inr ⟨a, b, q1, q2, q3, q4, (f.i k1 1).trans q5, (f.i k1 2).trans q6, f.dS q7⟩
  · have e := f.i r9 (8 * x + y)
    rcases fi x y hx hy with q | ⟨q1, q2, q3, q4, q5⟩
    · exact Or.inl (e.trans q)
    · exact Or.inr ⟨q1, q2, q3, q4, e.trans q5⟩
  · cases e : jv_sh h b with
    | none => exact n b e
    | some s' =>
      have := f.s e
      rw [hs] at this
      cases this
      exact d.2.2.2.2.2 b s e hn
/-- the fields of the new archive, one by one -/
def xst (h0 h : jv_H) (x : Nat) (L : List (Nat × Nat × jv_S)) : Prop := exs (fun b => b = x) h0 h ∧ jv_sh h x = some (.inl 7) ∧ (∀ j, jv_I h x j = 0) ∧ ∀ r ∈ L, jv_P h x r.1 = some r.2.1 ∧ jv_sh h r.2.1 = some r.2.2 ∧ jv_sh h0 r.2.1 = none
theorem xst.start {x : Nat} (hx : jv_sh h x = some (.inl 7)) (hz : ∀ j, jv_I h x j = 0) : xst h h x [] := ⟨.rf, hx, hz, fun r hr => by cases hr⟩
theorem xst.step {h0 : jv_H} {x a k : Nat} {s : jv_S} {L : List (Nat × Nat × jv_S)} (r : xst h0 h x L) (hk : ∀ r ∈ L, r.1 ≠ k) (ha : jv_sh h a = none) (fx : exs (fun b => b = a) (jv_new h a s) h2) (hs : jv_sh h2 a = some s) : xst h0 (jv_wP h2 x k (some a)) x ((k, a, s) :: L) ∧ exs (fun b => b = x) h (jv_wP h2 x k (some a)) := by
  obtain ⟨r1, r2, r3, r4⟩ := r
  have hxa : x ≠ a := ne_no ha (sh_ne r2)
  have fx2 : exs (fun _ => False) h h2 := fun b _ e => (sm_new (ne_no ha e)).tr (fx b (ne_no ha e) (by rw [(sm_new (ne_no ha e)).1]; exact e))
  have f : exs (fun b => b = x) h (jv_wP h2 x k (some a)) := fun b n e => (fx2 b (fun q => q) e).tr (sm_wP n)
  have sx := fx2 x (fun q => q) (sh_ne r2)
  refine ⟨⟨r1.tr f, sx.1.trans r2, fun j => (sx.2.1 j).trans (r3 j), fun y hy => ?_⟩, f⟩
  rcases List.mem_cons.mp hy with q | q
  · subst q
    exact ⟨jv_P_self _ _ _ _, hs, r1.fresh ha (Ne.symm hxa)⟩
  · obtain ⟨q1, q2, q3⟩ := r4 y q
    refine ⟨?_, (fx2 _ (fun q => q) (sh_ne q2)).1.trans q2, q3⟩
    rw [jv_P_wP, if_neg (fun z => hk y q z.2), sx.2.2.2]
    exact q1
theorem exs.g {x : Nat} {h h1 : jv_H} (f : exs (fun b => b = x) h h1) {b : Nat} (n : b ≠ x) (e : jv_sh h b ≠ none) : sm b h h1 := f b n e
set_option maxHeartbeats 2000000 in
theorem init_mk {hA hB hC hk0 hk hp0 hp : jv_H} {x A1 A2 A3 A4 A5 pc pb pt : Nat} {g : nG} {u b1 b2 uc b4 pu q : Nat → Nat} {t v : Nat → Nat → Nat}
    (r : xst h hA x [(6, A5, .inr (.int, 64)), (5, A4, .inl 4), (4, A3, .inl 1), (2, A2, .inr (.object "LinkArchive$Caller", 12)), (0, A1, .inr (.object "LinkArchive$Edition", 8))]) (z5 : ∀ j, jv_I hA A5 j = 0)
    (nk : nK hk0 hk A3 q 10) (xk : jv_sh hk0 x ≠ none) (fK : exs (fun b => b = x) hk hA) (np : nP hp0 hp A4 pc pb pt pu) (xp : jv_sh hp0 x ≠ none) (fP : exs (fun b => b = x) hp hA)
    (rE : rowE hA hB A1 g u b1 b2 t 8) (rC : rowC hB hC A2 uc b4 v 12) :
    exs (fun b => b = x) h hC ∧ ∃ (z : Nat → Nat → Nat) (T : Nat → Nat) (N : Nat → Nat → Nat) (tO : Nat → Nat), z 6 0 = x ∧ (∀ b, jv_sh hC b = none → tO b = b) ∧ cl_R z T N tO hC ([], []) := by
  obtain ⟨r1, r2, r3, r4⟩ := r
  obtain ⟨a5p, a5s, a5f⟩ := r4 (6, A5, .inr (.int, 64)) (by simp)
  obtain ⟨a4p, a4s, a4f⟩ := r4 (5, A4, .inl 4) (by simp)
  obtain ⟨a3p, a3s, a3f⟩ := r4 (4, A3, .inl 1) (by simp)
  obtain ⟨a2p, a2s, a2f⟩ := r4 (2, A2, .inr (.object "LinkArchive$Caller", 12)) (by simp)
  obtain ⟨a1p, a1s, a1f⟩ := r4 (0, A1, .inr (.object "LinkArchive$Edition", 8)) (by simp)
  dsimp only at a5p a5s a5f a4p a4s a4f a3p a3s a3f a2p a2s a2f a1p a1s a1f
  obtain ⟨e1, e2, e3, e4, e5⟩ := rE
  obtain ⟨c1, c2, c3, c4, c5⟩ := rC
  have kp : ∀ b, jv_sh hA b ≠ none → b ≠ A1 → b ≠ A2 → sm b hA hC := fun b e n1 n2 => (e1 b n1 e).tr (c1 b n2 ((e1 b n1 e).ne e))
  have kA : ∀ {b : Nat} {s : jv_S}, jv_sh hA b = some s → s ≠ .inr (.object "LinkArchive$Edition", 8) → s ≠ .inr (.object "LinkArchive$Caller", 12) → sm b hA hC := fun {b s} e n1 n2 => kp b (sh_ne e) (sh_no e a1s n1) (sh_no e a2s n2)
  have n12 : A1 ≠ A2 := sh_no a1s a2s (by decide)
  have sx := kA r2 (by intro q; cases q) (by intro q; cases q)
  have s3 := kA a3s (by intro q; cases q) (by intro q; cases q)
  have s4 := kA a4s (by intro q; cases q) (by intro q; cases q)
  have s5 := kA a5s (by intro q; cases q) (by intro q; cases q)
  have s1 : sm A1 hB hC := c1 A1 n12 (by rw [e2]; exact e3)
  have s2 : sm A2 hA hB := e1 A2 (Ne.symm n12) (sh_ne a2s)
  -- the comparison and the probe, up to hA
  have n3x : A3 ≠ x := sh_no a3s r2 (by intro q; cases q)
  have n4x : A4 ≠ x := sh_no a4s r2 (by intro q; cases q)
  obtain ⟨k1, k2, k3, k4, k5, k6, k7, k8⟩ := nk
  have m3 := fK A3 n3x (sh_ne k1)
  obtain ⟨p1, p2, p3, p4, p5, p6, p7, p8, p9, p10⟩ := np
  have m4 := fP A4 n4x (sh_ne p1)
  have fz : ∀ {b : Nat}, jv_sh hp0 b = none → b ≠ x := fun e q => xp (by rw [← q]; exact e)
  have mt := fP pt (fz p7) (sh_ne p4)
  have pA : nC hp0 hA pc pb pu := p5.later (fun b e y => fP b (fz (p5.fr p6 y)) e)
  have pC' : nC hp0 hC pc pb pu := pA.later (fun b e y => by
    have e' := e
    rcases y with y | y | ⟨j, hj, y⟩
    · rw [y]; exact kA pA.1 (by intro q; cases q) (by intro q; cases q)
    · rw [y]; exact kA pA.2.2.2.1 (by decide) (by decide)
    · rw [y]; exact kA (pA.2.2.2.2.2.1 j hj).2.1 (by intro q; cases q) (by intro q; cases q))
  have ptA : jv_sh hA pt = some (.inl 6) := mt.1.trans p4
  have spt := kA ptA (by intro q; cases q) (by intro q; cases q)
  have alB : ∀ b, jv_sh hA b ≠ none → jv_sh hB b ≠ none := fun b e => by
    by_cases y : b = A1
    · rw [y, e2]; exact e3
    · exact (e1 b y e).ne e
  refine ⟨fun b n e => ?_, cl_mk (sx.1.trans r2) ((sx.2.1 1).trans (r3 1)) ((sx.2.1 3).trans (r3 3)) ((sx.2.2.2 0).trans a1p) ((sx.2.2.2 2).trans a2p) ((sx.2.2.2 4).trans a3p) ((sx.2.2.2 5).trans a4p) ((sx.2.2.2 6).trans a5p) (s1.1.trans (e2.trans a1s)) (c2.trans (s2.1.trans a2s)) (s5.1.trans a5s) (fun j => (s5.2.1 j).trans (z5 j)) (fun e he => ?_) e5 (fun c hc => ⟨(c4 c hc).1, (c4 c hc).2.1⟩) c5 (s3.1.trans a3s) ((s3.2.1 1).trans ((m3.2.1 1).trans k3)) (fun k h3 h9 => ?_) (fun i j h1 h2 h3 h4 w => k7 i j h1 (by omega) h3 (by omega) w) (s4.1.trans a4s) ((s4.2.2.2 0).trans ((m4.2.2.2 0).trans p2)) ((s4.2.2.2 1).trans ((m4.2.2.2 1).trans p3)) (spt.1.trans ptA) ⟨_, pC'⟩ p10 (fun c b hc y => ⟨fun y2 => ?_, fun y2 => ?_⟩)⟩
  · have sb := r1 b n e
    refine sb.tr (kp b (sb.ne e) (fun y => ?_) (fun y => ?_))
    · rw [y] at e; exact e a1f
    · rw [y] at e; exact e a2f
  · obtain ⟨q1, q2, q3⟩ := e4 e he
    refine ⟨(s1.2.2.2 e).trans q1, q2.later (fun b y => c1 b (fun w => ?_) (q3 b y).2) (fun k hk => ⟨rfl, rfl, rfl, rfl⟩)⟩
    have := (q3 b y).1
    rw [w, a2s] at this
    cases this
  · obtain ⟨q1, q2, q3⟩ := k6 k h3 (by omega)
    have nq : q k ≠ x := fun w => xk (by rw [← w]; exact q3)
    have mq := fK (q k) nq (sh_ne q2)
    have qA := mq.1.trans q2
    have sq := kA qA (by rcases (by omega : k = 3 ∨ k = 4 ∨ k = 5 ∨ k = 6 ∨ k = 7 ∨ k = 8 ∨ k = 9) with w | w | w | w | w | w | w <;> subst w <;> intro y <;> cases y) (by rcases (by omega : k = 3 ∨ k = 4 ∨ k = 5 ∨ k = 6 ∨ k = 7 ∨ k = 8 ∨ k = 9) with w | w | w | w | w | w | w <;> subst w <;> intro y <;> cases y)
    exact ⟨(s3.2.2.2 k).trans ((m3.2.2.2 k).trans q1), sq.1.trans qA⟩
  · exact alB b (pA.al y2) ((c4 c hc).2.2 b y)
  · have := (c4 c hc).2.2 b y
    rw [y2] at this
    exact alB pt (sh_ne ptA) this
end ZG
