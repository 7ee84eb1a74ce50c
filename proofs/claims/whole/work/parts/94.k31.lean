def SK (z : Nat → Nat → Nat) (y : Nat) : Prop := SD z y ∨ y = z 7 8 ∨ y = z 7 9
theorem sk_no {z : Nat → Nat → Nat} {h : jv_H} (lk : cl_k z h) {b : Nat} {s : jv_S} (hs : jv_sh h b = some s) (n1 : s ≠ .inl 1) (n2 : s ≠ .inr (.int, 230)) (n3 : s ≠ .inr (.boolean, 230)) (n4 : s ≠ .inr (.int, 2048)) (n5 : s ≠ .inr (.long, 32)) : ¬ SK z b := by
  rintro (q | q | q)
  · exact sd_no lk hs n1 n2 n3 q
  · rw [q, ck_s8 lk] at hs; exact n4 (Option.some.inj hs).symm
  · rw [q, ck_s9 lk] at hs; exact n5 (Option.some.inj hs).symm
theorem sk_E {z : Nat → Nat → Nat} {T : Nat → Nat} {N : Nat → Nat → Nat} {h h1 : jv_H} {e : Nat} {ts : List mT} (lk : cl_k z h) (f : cF (SK z) h h1) (r : cv_E z T N h e ts) : cv_E z T N h1 e ts := by
  obtain ⟨⟨r1, r2, r3, r4, r5, r6, r7⟩, r8, r9, r10, r11, r12⟩ := r
  have n0 := sk_no lk r1 (by intro q; cases q) (by intro q; cases q) (by intro q; cases q) (by intro q; cases q) (by intro q; cases q)
  refine ⟨⟨(congrFun f.1 _).trans r1, (f.p _ _).trans r2, (congrFun f.1 _).trans r3, (f.p _ _).trans r4, (congrFun f.1 _).trans r5, (f.i n0 0).trans r6, fun k hk => (f.p _ _).trans (r7 k hk)⟩, fun k hk => f.t (r8 k hk), (f.i n0 3).trans r9, r10, fun k t ht => ?_, fun n hn => (f.p _ _).trans (r12 n hn)⟩
  obtain ⟨q, qo⟩ := r11 k t ht
  have hk : k < 10 := by have := jv_ltGet ht; omega
  have tl := r8 k hk
  have na := sk_no lk tl.1 (by intro q; cases q) (by intro q; cases q) (by intro q; cases q) (by intro q; cases q) (by intro q; cases q)
  have n8 := sk_no lk tl.2.2.1 (by intro q; cases q) (by intro q; cases q) (by intro q; cases q) (by intro q; cases q) (by intro q; cases q)
  refine ⟨⟨(f.i na 0).trans q.1, (f.i na 1).trans q.2.1, (f.i na 2).trans q.2.2.1, (f.i na 3).trans q.2.2.2.1, (f.i na 4).trans q.2.2.2.2.1, (f.i na 5).trans q.2.2.2.2.2.1, (f.i na 7).trans q.2.2.2.2.2.2.1, (f.i na 9).trans q.2.2.2.2.2.2.2.1, (f.l na 10).trans q.2.2.2.2.2.2.2.2.1, (f.l na 11).trans q.2.2.2.2.2.2.2.2.2.1, fun j v y => (f.i n8 j).trans (ct_f q y), fun j m y => ?_⟩, qo⟩
  have hj : j < 6 := by have := jv_ltGet y; have := qo.2.2.2.2.2.1; omega
  exact f.M (sk_no lk (tl.2.2.2.2.2.2.2 j hj).2 (by intro q; cases q) (by intro q; cases q) (by intro q; cases q) (by intro q; cases q) (by intro q; cases q)) (ct_m q y)
theorem sk_U {z : Nat → Nat → Nat} {T : Nat → Nat} {N : Nat → Nat → Nat} {h h1 : jv_H} {e : Nat} {ts : List mT} {Us : Nat → List Nat} (lk : cl_k z h) (f : cF (SK z) h h1) (hE : cv_E z T N h e ts) (r : cv_Us z T h e ts Us) : cv_Us z T h1 e ts Us := fun k hk => by
  have tl := hE.2.1 k (by have := hE.2.2.2.1; omega)
  obtain ⟨⟨u1, u2, u3⟩, u4⟩ := r k hk
  have na := sk_no lk tl.1 (by intro q; cases q) (by intro q; cases q) (by intro q; cases q) (by intro q; cases q) (by intro q; cases q)
  have n10 := sk_no lk tl.2.2.2.2.2.2.1 (by intro q; cases q) (by intro q; cases q) (by intro q; cases q) (by intro q; cases q) (by intro q; cases q)
  exact ⟨⟨(f.i na 13).trans u1, (f.i na 14).trans u2, fun j v y => (f.i n10 j).trans (u3 j v y)⟩, u4⟩
