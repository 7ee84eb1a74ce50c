/-! the class's cells and the reference's are apart by their shapes -/
def rsh (s : jv_S) : Bool := match s with
  | .inl n => n == 8
  | .inr (.int, n) => n == 8 || n == 80 || n == 240 || n == 480 || n == 13 || n == 260 || n == 1400
  | .inr (.boolean, n) => n == 8 || n == 80 || n == 480 || n == 2048 || n == 10
  | _ => false
theorem rsh_k : ∀ k, k < 42 → rf_arr k = true → rsh (.inr (rf_ty k, rf_n k)) = true := by decide
theorem cn_rsh : ∀ s, cn s = true → rsh s = false := fun s hs => by
  cases hr : rsh s with
  | false => rfl
  | true =>
    exfalso
    unfold rsh at hr
    split at hr
    · simp at hr
      subst hr; cases hs
    · simp at hr
      rcases hr with (((((hr | hr) | hr) | hr) | hr) | hr) | hr <;> subst hr <;> cases hs
    · simp at hr
      rcases hr with (((hr | hr) | hr) | hr) | hr <;> subst hr <;> cases hs
    · cases hr
def lcs (s : jv_S) : Bool := cs s || decide (s = .inr (.long, 1))
theorem lcs_r {s : jv_S} (h : rsh s = true) : lcs s = false := by
  cases hl : lcs s with
  | false => rfl
  | true =>
    exfalso
    unfold lcs at hl
    rw [Bool.or_eq_true, decide_eq_true_iff] at hl
    rcases hl with q | q
    · rw [cn_rsh s (cn_of q)] at h; cases h
    · rw [q] at h; cases h
section SEP
variable {x : Nat} {q : Nat → Nat} {h h1 : jv_H} {M : mA}
theorem fr_sF (S : rf_S x q h) (f : fr x q h h1) : sF rsh h h1 := ⟨f.1, fun b s e n => ⟨fun j => f.2.2.2.2.2 b j (fun y => by
  rw [y, S.1] at e; cases e; cases n) (fun k hk hr y => by
  rw [y, (S.2.1 k hk hr).2] at e; cases e; rw [rsh_k k hk hr] at n; cases n), fun j => f.2.2.1 b j, fun j => f.2.1 b j⟩⟩
theorem rs_sF (S : rf_S x q h) (f : rs x q h h1) : sF rsh h h1 := ⟨f.1, fun b s e n => ⟨fun j => f.2.2.2 b j (fun y => by
  have key : ∀ k, k < 42 → rf_arr k = true → b ≠ q k := fun k hk hr y => by
    rw [y, (S.2.1 k hk hr).2] at e; cases e; rw [rsh_k k hk hr] at n; cases n
  rcases y with y | y | y | y | y | y | y | y | y | y | ⟨y | y | y, -⟩
  · rw [y.1, S.1] at e; cases e; cases n
  · exact key 31 (by decide) rfl y
  · exact key 34 (by decide) rfl y
  · exact key 35 (by decide) rfl y
  · exact key 36 (by decide) rfl y
  · exact key 37 (by decide) rfl y
  · exact key 38 (by decide) rfl y
  · exact key 39 (by decide) rfl y
  · exact key 40 (by decide) rfl y
  · exact key 41 (by decide) rfl y
  · exact key 22 (by decide) rfl y
  · exact key 23 (by decide) rfl y
  · exact key 24 (by decide) rfl y), fun j => f.2.2.1 b j, fun j => f.2.1 b j⟩⟩
/-- the reference's state stays where its cells stay -/
theorem rf_R.ag (hR : rf_R x q h M) (sx : sm x h h1) (sq : ∀ k, k < 42 → rf_arr k = true → sm (q k) h h1) : rf_R x q h1 M := by
  obtain ⟨⟨S1, S2, S3⟩, ⟨a1, a2⟩, ⟨b1, b2⟩, hD, hV, hC⟩ := hR
  have e : ∀ k, (k < 42 ∧ rf_arr k = true) → ∀ j, jv_I h1 (q k) j = jv_I h (q k) j := fun k hk j => (sq k hk.1 hk.2).2.1 j
  refine ⟨⟨sx.1.trans S1, fun k hk hr => ⟨(sx.2.2.2 k).trans (S2 k hk hr).1, (sq k hk hr).1.trans (S2 k hk hr).2⟩, S3⟩, ⟨a1, (sx.2.1 1).trans a2⟩, ⟨b1, (sx.2.1 21).trans b2⟩, fun k hk => ?_, fun k hk hs => ?_, fun c C hc => ?_⟩
  · obtain ⟨d1, d2, d3, d4⟩ := hD k hk
    refine ⟨(e 2 (by decide) k).trans d1, (e 3 (by decide) k).trans d2, d3, fun j t ht => ⟨?_, (d4 j t ht).2⟩⟩
    obtain ⟨r1, r2, r3, r4, r5, r6, r7, r8, r9, r10⟩ := (d4 j t ht).1
    refine ⟨(e 4 (by decide) _).trans r1, (e 5 (by decide) _).trans r2, (e 6 (by decide) _).trans r3, (e 7 (by decide) _).trans r4, (e 8 (by decide) _).trans r5, (e 9 (by decide) _).trans r6, (e 10 (by decide) _).trans r7, (e 12 (by decide) _).trans r8, fun i v y => (e 11 (by decide) _).trans (r9 i v y), fun i m y => ?_⟩
    obtain ⟨m1, m2, m3, m4, m5, m6, m7⟩ := r10 i m y
    exact ⟨(e 13 (by decide) _).trans m1, (e 14 (by decide) _).trans m2, (e 15 (by decide) _).trans m3, (e 16 (by decide) _).trans m4, (e 17 (by decide) _).trans m5, (e 18 (by decide) _).trans m6, (e 19 (by decide) _).trans m7⟩
  · exact ⟨fun u l hu hl => (e 20 (by decide) _).trans ((hV k hk hs).1 u l hu hl), (hV k hk hs).2⟩
  · obtain ⟨⟨c1, c2, c3, c4, c5⟩, ok⟩ := hC c C hc
    refine ⟨⟨(e 22 (by decide) _).trans c1, (e 23 (by decide) _).trans c2, (e 24 (by decide) _).trans c3, (e 25 (by decide) _).trans c4, fun j u y => ?_⟩, ok⟩
    obtain ⟨u1, u2, u3, u4, u5⟩ := c5 j u y
    exact ⟨(e 26 (by decide) _).trans u1, (e 27 (by decide) _).trans u2, (e 28 (by decide) _).trans u3, (e 29 (by decide) _).trans u4, (e 30 (by decide) _).trans u5⟩
theorem sF.sm {P : jv_S → Bool} (f : sF P h h1) {b : Nat} {s : jv_S} (e : jv_sh h b = some s) (n : P s = false) : sm b h h1 := ⟨f.sh b, fun j => f.i e n j, fun j => f.l e n j, fun j => f.p e n j⟩
theorem rf_R.sF (hR : rf_R x q h M) (f : sF lcs h h1) : rf_R x q h1 M := hR.ag (f.sm hR.1.1 (lcs_r rfl)) (fun k hk hr => f.sm (hR.1.2.1 k hk hr).2 (lcs_r (rsh_k k hk hr)))
theorem rf_R.gr (hR : rf_R x q h M) (f : gF h h1) : rf_R x q h1 M := hR.ag (f _ (sh_ne hR.1.1)) (fun k hk hr => f _ (sh_ne (hR.1.2.1 k hk hr).2))
end SEP
