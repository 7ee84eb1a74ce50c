/-! the state that the constructor leaves -/
def zF (x A1 A2 A3 A4 A5 : Nat) (g : nG) (u b1 b2 uc b4 : Nat → Nat) (v : Nat → Nat → Nat) (q : Nat → Nat) (pc pb : Nat) (pu : Nat → Nat) (pt : Nat) : Nat → Nat → Nat := fun s i => match s with
  | 0 => u i
  | 1 => b1 i
  | 2 => b2 i
  | 3 => if i = 12 then pc else uc i
  | 4 => if i = 12 then pb else b4 i
  | 5 => if i = 260 then pt else if 240 ≤ i then pu (i - 240) else v (i / 20) (i % 20)
  | 6 => match i with
    | 0 => x
    | 1 => A1
    | 2 => A2
    | 3 => A3
    | 4 => A4
    | _ => A5
  | 7 => q i
  | 8 => g.1 i
  | 9 => g.2.1 i
  | _ => g.2.2.1 i
section ZA
variable {H : jv_H} {g : nG} {u b1 b2 : Nat → Nat} {t : Nat → Nat → Nat}
def tsh (s : jv_S) : Bool := match s with
  | .inl n => n == 3 || n == 5
  | .inr (.int, n) => n == 3 || n == 10
  | .inr (.object C, n) => C == "LinkArchive$Member" && n == 6
  | _ => false
theorem tyB_s {h0 : jv_H} {a b : Nat} (r : nTg h0 H g a) (y : tyB g a b) : ∃ s, jv_sh H b = some s ∧ tsh s = true ∧ es s = true := by
  obtain ⟨r1, r2, r3, r4, r5, r6, r7, r8, r9, r10, r11⟩ := r
  rcases y with y | y | y | y | ⟨j, hj, y⟩ <;> rw [y]
  · exact ⟨_, r1, rfl, rfl⟩
  · exact ⟨_, r5, rfl, rfl⟩
  · exact ⟨_, r7, rfl, rfl⟩
  · exact ⟨_, r9, rfl, rfl⟩
  · exact ⟨_, (r10 j hj).2.1, rfl, rfl⟩
theorem edB_s {c e b b1 b2 : Nat} {t : Nat → Nat} (r : ed1 H g c e b1 b2 t) (y : edB g c b1 b2 t b) : ∃ s, jv_sh H b = some s ∧ es s = true := by
  rcases y with y | y | y | ⟨k, hk, y⟩
  · rw [y]; exact ⟨_, r.1, rfl⟩
  · rw [y]; exact ⟨_, r.2.2.2.2.1, rfl⟩
  · rw [y]; exact ⟨_, r.2.2.2.2.2.2.1, rfl⟩
  · obtain ⟨-, h0, n⟩ := r.2.2.2.2.2.2.2.2.1 k hk
    obtain ⟨s, s1, -, s3⟩ := tyB_s n y
    exact ⟨s, s1, s3⟩
/-- who owns what -/
theorem own_map (rE : ∀ e, e < 8 → ed1 H g (u e) e (b1 e) (b2 e) (t e)) (dE : ∀ e e' b, e < 8 → e' < 8 → edB g (u e) (b1 e) (b2 e) (t e) b → edB g (u e') (b1 e') (b2 e') (t e') b → e = e') : ∃ tO : Nat → Nat, ∀ b, (∀ e, e < 8 → b = u e ∨ b = b1 e ∨ b = b2 e → tO b = u e) ∧ (∀ e k, e < 8 → k < 10 → tyB g (t e k) b → tO b = t e k) ∧ ((∀ e, e < 8 → ¬ edB g (u e) (b1 e) (b2 e) (t e) b) → tO b = b) := by
  suffices key : ∀ b : Nat, ∃ o : Nat, (∀ e, e < 8 → b = u e ∨ b = b1 e ∨ b = b2 e → o = u e) ∧ (∀ e k, e < 8 → k < 10 → tyB g (t e k) b → o = t e k) ∧ ((∀ e, e < 8 → ¬ edB g (u e) (b1 e) (b2 e) (t e) b) → o = b) from ⟨fun b => Classical.choose (key b), fun b => Classical.choose_spec (key b)⟩
  intro b
  have l3 : ∀ e b, b = u e ∨ b = b1 e ∨ b = b2 e → edB g (u e) (b1 e) (b2 e) (t e) b := fun e b y => by
    rcases y with y | y | y
    · exact Or.inl y
    · exact Or.inr (Or.inl y)
    · exact Or.inr (Or.inr (Or.inl y))
  have lT : ∀ e k b, k < 10 → tyB g (t e k) b → edB g (u e) (b1 e) (b2 e) (t e) b := fun e k b hk y => Or.inr (Or.inr (Or.inr ⟨k, hk, y⟩))
  have no : ∀ e k b, e < 8 → k < 10 → tyB g (t e k) b → ¬ (b = u e ∨ b = b1 e ∨ b = b2 e) := fun e k b he hk y y2 => by
    have r := rE e he
    obtain ⟨-, h0, n⟩ := r.2.2.2.2.2.2.2.2.1 k hk
    obtain ⟨s, s1, s2, -⟩ := tyB_s n y
    rcases y2 with y2 | y2 | y2
    · rw [y2, r.1] at s1; cases s1; cases s2
    · rw [y2, r.2.2.2.2.1] at s1; cases s1; cases s2
    · rw [y2, r.2.2.2.2.2.2.1] at s1; cases s1; cases s2
  by_cases h1 : ∃ e, e < 8 ∧ (b = u e ∨ b = b1 e ∨ b = b2 e)
  · obtain ⟨e, he, y⟩ := h1
    refine ⟨u e, fun e' he' y' => ?_, fun e' k he' hk y' => ?_, fun n => absurd (l3 e b y) (n e he)⟩
    · rw [dE e e' b he he' (l3 e b y) (l3 e' b y')]
    · have := dE e e' b he he' (l3 e b y) (lT e' k b hk y')
      subst this
      exact absurd y (no e k b he hk y')
  · by_cases h2 : ∃ e k, e < 8 ∧ k < 10 ∧ tyB g (t e k) b
    · obtain ⟨e, k, he, hk, y⟩ := h2
      refine ⟨t e k, fun e' he' y' => absurd ⟨e', he', y'⟩ h1, fun e' k' he' hk' y' => ?_, fun n => absurd (lT e k b hk y) (n e he)⟩
      have := dE e e' b he he' (lT e k b hk y) (lT e' k' b hk' y')
      subst this
      rw [(rE e he).2.2.2.2.2.2.2.2.2 k k' b hk hk' y y']
    · exact ⟨b, fun e he y => absurd ⟨e, he, y⟩ h1, fun e k he hk y => absurd ⟨e, k, he, hk, y⟩ h2, fun _ => rfl⟩
end ZA
set_option maxHeartbeats 2000000 in
theorem cl_mk {H : jv_H} {x A1 A2 A3 A4 A5 pc pb pt : Nat} {g : nG} {u b1 b2 uc b4 pu q : Nat → Nat} {t v : Nat → Nat → Nat}
    (hx : jv_sh H x = some (.inl 7)) (i1 : jv_I H x 1 = 0) (i3 : jv_I H x 3 = 0) (p0 : jv_P H x 0 = some A1) (p2 : jv_P H x 2 = some A2) (p4 : jv_P H x 4 = some A3) (p5 : jv_P H x 5 = some A4) (p6 : jv_P H x 6 = some A5)
    (s1 : jv_sh H A1 = some (.inr (.object "LinkArchive$Edition", 8))) (s2 : jv_sh H A2 = some (.inr (.object "LinkArchive$Caller", 12))) (s5 : jv_sh H A5 = some (.inr (.int, 64))) (z5 : ∀ j, jv_I H A5 j = 0)
    (rE : ∀ e, e < 8 → jv_P H A1 e = some (u e) ∧ ed1 H g (u e) e (b1 e) (b2 e) (t e)) (dE : ∀ e e' b, e < 8 → e' < 8 → edB g (u e) (b1 e) (b2 e) (t e) b → edB g (u e') (b1 e') (b2 e') (t e') b → e = e')
    (rC : ∀ c, c < 12 → jv_P H A2 c = some (uc c) ∧ ∃ h0, nC h0 H (uc c) (b4 c) (v c)) (dC : ∀ c c' b, c < 12 → c' < 12 → caB (uc c) (b4 c) (v c) b → caB (uc c') (b4 c') (v c') b → c = c')
    (k1 : jv_sh H A3 = some (.inl 1)) (k2 : jv_I H A3 1 = -1) (k3 : ∀ k, 3 ≤ k → k ≤ 9 → jv_P H A3 k = some (q k) ∧ jv_sh H (q k) = some (.inr (ck_ty k, ck_n k))) (k4 : ∀ i j, 3 ≤ i → i ≤ 9 → 3 ≤ j → j ≤ 9 → q i = q j → i = j)
    (r1 : jv_sh H A4 = some (.inl 4)) (r2 : jv_P H A4 0 = some pc) (r3 : jv_P H A4 1 = some pt) (r4 : jv_sh H pt = some (.inl 6)) (r5 : ∃ h0, nC h0 H pc pb pu) (r6 : ∀ j, j < 20 → pu j ≠ pt) (dP : ∀ c b, c < 12 → caB (uc c) (b4 c) (v c) b → ¬ caB pc pb pu b ∧ b ≠ pt) :
    ∃ (z : Nat → Nat → Nat) (T : Nat → Nat) (N : Nat → Nat → Nat) (tO : Nat → Nat), z 6 0 = x ∧ (∀ b, jv_sh H b = none → tO b = b) ∧ cl_R z T N tO H ([], []) := by
  obtain ⟨tO, hO⟩ := own_map (fun e he => (rE e he).2) dE
  obtain ⟨hp, np⟩ := r5
  have eT : ∀ e k, k < 10 → (fun i => t (i / 10) (i % 10)) (10 * e + k) = t e k := fun e k hk => by
    show t ((10 * e + k) / 10) ((10 * e + k) % 10) = t e k
    rw [show (10 * e + k) / 10 = e by omega, show (10 * e + k) % 10 = k by omega]
  have eV : ∀ c j, c < 12 → j < 20 → zF x A1 A2 A3 A4 A5 g u b1 b2 uc b4 v q pc pb pu pt 5 (20 * c + j) = v c j := fun c j hc hj => by
    show (if 20 * c + j = 260 then pt else if 240 ≤ 20 * c + j then pu (20 * c + j - 240) else v ((20 * c + j) / 20) ((20 * c + j) % 20)) = v c j
    rw [if_neg (by omega), if_neg (by omega), show (20 * c + j) / 20 = c by omega, show (20 * c + j) % 20 = j by omega]
  have eC : ∀ c, c < 12 → zF x A1 A2 A3 A4 A5 g u b1 b2 uc b4 v q pc pb pu pt 3 c = uc c := fun c hc => if_neg (by omega)
  have e4 : ∀ c, c < 12 → zF x A1 A2 A3 A4 A5 g u b1 b2 uc b4 v q pc pb pu pt 4 c = b4 c := fun c hc => if_neg (by omega)
  have eP : zF x A1 A2 A3 A4 A5 g u b1 b2 uc b4 v q pc pb pu pt 3 12 = pc := by show (if (12 : Nat) = 12 then pc else uc 12) = pc; rw [if_pos rfl]
  have eQ : zF x A1 A2 A3 A4 A5 g u b1 b2 uc b4 v q pc pb pu pt 5 260 = pt := by show (if (260 : Nat) = 260 then pt else if 240 ≤ 260 then pu (260 - 240) else v (260 / 20) (260 % 20)) = pt; rw [if_pos rfl]
  have eU : ∀ j, j < 20 → zF x A1 A2 A3 A4 A5 g u b1 b2 uc b4 v q pc pb pu pt 5 (240 + j) = pu j := fun j hj => by
    show (if 240 + j = 260 then pt else if 240 ≤ 240 + j then pu (240 + j - 240) else v ((240 + j) / 20) ((240 + j) % 20)) = pu j
    rw [if_neg (by omega), if_pos (by omega), show 240 + j - 240 = j by omega]
  have five : ∀ i, i ≤ 260 → i = 260 ∨ (∃ j, j < 20 ∧ i = 240 + j) ∨ ∃ c j, c < 12 ∧ j < 20 ∧ i = 20 * c + j := fun i hi => by
    by_cases h1 : i = 260
    · exact Or.inl h1
    · by_cases h2 : 240 ≤ i
      · exact Or.inr (Or.inl ⟨i - 240, by omega, by omega⟩)
      · exact Or.inr (Or.inr ⟨i / 20, i % 20, by omega, by omega, by omega⟩)
  have vB : ∀ c j, j < 20 → caB (uc c) (b4 c) (v c) (v c j) := fun c j hj => Or.inr (Or.inr ⟨j, hj, rfl⟩)
  have pB : ∀ j, j < 20 → caB pc pb pu (pu j) := fun j hj => Or.inr (Or.inr ⟨j, hj, rfl⟩)
  have s6 : ∀ i, i ≤ 260 → jv_sh H (zF x A1 A2 A3 A4 A5 g u b1 b2 uc b4 v q pc pb pu pt 5 i) = some (.inl 6) := fun i hi => by
    rcases five i hi with y | ⟨j, hj, y⟩ | ⟨c, j, hc, hj, y⟩ <;> subst y
    · rw [eQ]; exact r4
    · rw [eU j hj]; exact (np.2.2.2.2.2.1 j hj).2.1
    · rw [eV c j hc hj]
      obtain ⟨-, h0, n⟩ := rC c hc
      exact (n.2.2.2.2.2.1 j hj).2.1
  have inj5 : ∀ i i', i ≤ 260 → i' ≤ 260 → zF x A1 A2 A3 A4 A5 g u b1 b2 uc b4 v q pc pb pu pt 5 i = zF x A1 A2 A3 A4 A5 g u b1 b2 uc b4 v q pc pb pu pt 5 i' → i = i' := fun i i' hi hi' w => by
    rcases five i hi with y | ⟨j, hj, y⟩ | ⟨c, j, hc, hj, y⟩ <;> rcases five i' hi' with y' | ⟨j', hj', y'⟩ | ⟨c', j', hc', hj', y'⟩ <;> subst y <;> subst y'
    · rfl
    · rw [eQ, eU j' hj'] at w; exact absurd w.symm (r6 j' hj')
    · rw [eQ, eV c' j' hc' hj'] at w; exact absurd w.symm (dP c' _ hc' (vB c' j' hj')).2
    · rw [eQ, eU j hj] at w; exact absurd w (r6 j hj)
    · rw [eU j hj, eU j' hj'] at w; rw [np.2.2.2.2.2.2 j j' hj hj' w]
    · rw [eU j hj, eV c' j' hc' hj'] at w
      have := (dP c' _ hc' (vB c' j' hj')).1
      rw [← w] at this
      exact absurd (pB j hj) this
    · rw [eQ, eV c j hc hj] at w; exact absurd w (dP c _ hc (vB c j hj)).2
    · rw [eU j' hj', eV c j hc hj] at w
      have := (dP c _ hc (vB c j hj)).1
      rw [w] at this
      exact absurd (pB j' hj') this
    · rw [eV c j hc hj, eV c' j' hc' hj'] at w
      have hcc := dC c c' _ hc hc' (vB c j hj) (by rw [w]; exact vB c' j' hj')
      subst hcc
      obtain ⟨-, h0, n⟩ := rC c hc
      rw [n.2.2.2.2.2.2 j j' hj hj' w]
  have inj3 : ∀ c c', c ≤ 12 → c' ≤ 12 → zF x A1 A2 A3 A4 A5 g u b1 b2 uc b4 v q pc pb pu pt 3 c = zF x A1 A2 A3 A4 A5 g u b1 b2 uc b4 v q pc pb pu pt 3 c' → c = c' := fun c c' hc hc' w => by
    by_cases y : c = 12 <;> by_cases y' : c' = 12
    · rw [y, y']
    · rw [y, eP, eC c' (by omega)] at w
      exact absurd (Or.inl w.symm) (dP c' _ (by omega) (Or.inl rfl)).1
    · rw [y', eP, eC c (by omega)] at w
      exact absurd (Or.inl w) (dP c _ (by omega) (Or.inl rfl)).1
    · rw [eC c (by omega), eC c' (by omega)] at w
      exact dC c c' (uc c) (by omega) (by omega) (Or.inl rfl) (Or.inl w)
  have tI : ∀ i, i < 80 → ∃ e k, e < 8 ∧ k < 10 ∧ i = 10 * e + k := fun i hi => ⟨i / 10, i % 10, by omega, by omega, by omega⟩
  have tB : ∀ e k, k < 10 → edB g (u e) (b1 e) (b2 e) (t e) (t e k) := fun e k hk => Or.inr (Or.inr (Or.inr ⟨k, hk, Or.inl rfl⟩))
  have m0 : ∀ e, ma_t (([], []) : mA) e = [] ∧ ma_s (([], []) : mA) e = false := fun e => ma_out (Nat.zero_le _)
  refine ⟨zF x A1 A2 A3 A4 A5 g u b1 b2 uc b4 v q pc pb pu pt, fun i => t (i / 10) (i % 10), g.2.2.2, tO, rfl, fun b hb => (hO b).2.2 (fun e he y => by
    obtain ⟨s', q1, -⟩ := edB_s (rE e he).2 y
    rw [hb] at q1; cases q1), ⟨⟨hx, p0, s1, p2, s2, p4, p5, p6, s5, fun e he => (rE e he).1, fun c hc => by rw [eC c hc]; exact (rC c hc).1⟩, ⟨i1, Nat.zero_le _, i3, Nat.zero_le _⟩, fun e he => ?_, fun e he => ?_⟩, ⟨fun c hc => ?_, fun c C hC => by cases hC⟩, ⟨⟨k1, k3, k4⟩, Or.inl k2⟩, fun a b _ _ => Or.inl (z5 _), ⟨r1, by rw [eP]; exact r2, by rw [eQ]; exact r3, by rw [eP]; exact np.1, by rw [eQ]; exact r4⟩, fun e e' he he' w => dE e e' (u e) he he' (Or.inl rfl) (Or.inl w), fun i i' hi hi' w => ?_, inj3, inj5, s6, fun b s hs n => ?_⟩
  · obtain ⟨-, d1, d2, d3, d4, d5, d6, d7, d8, d9, d10⟩ := rE e he
    have o := hO
    unfold cl_E
    rw [(m0 e).1, (m0 e).2]
    refine ⟨⟨⟨d1, d4, d5, d6, d7, d2, fun k hk => by rw [eT e k hk]; exact (d9 k hk).1⟩, fun k hk => ?_, d3 3 (by decide), Nat.zero_le _, fun k y hy => (by cases hy), fun n _ => d8 n⟩, ⟨(hO _).1 e he (Or.inl rfl), (hO _).1 e he (Or.inr (Or.inl rfl)), (hO _).1 e he (Or.inr (Or.inr rfl)), fun k hk => ?_, fun k k' hk hk' w => ?_⟩, d3 1 (by decide), fun y => by cases y⟩
    · rw [eT e k hk]
      obtain ⟨-, h0, n1, n2, n3, n4, n5, n6, n7, n8, n9, n10, n11⟩ := d9 k hk
      exact ⟨n1, n4, n5, n6, n7, n8, n9, fun j hj => ⟨(n10 j hj).1, (n10 j hj).2.1⟩⟩
    · rw [eT e k hk]
      obtain ⟨-, h0, n⟩ := d9 k hk
      exact ⟨(hO _).2.1 e k he hk (Or.inl rfl), (hO _).2.1 e k he hk (Or.inr (Or.inl rfl)), (hO _).2.1 e k he hk (Or.inr (Or.inr (Or.inl rfl))), (hO _).2.1 e k he hk (Or.inr (Or.inr (Or.inr (Or.inl rfl)))), fun j hj => (hO _).2.1 e k he hk (Or.inr (Or.inr (Or.inr (Or.inr ⟨j, hj, rfl⟩)))), n.2.2.2.2.2.2.2.2.2.2.1⟩
    · rw [eT e k hk, eT e k' hk'] at w
      exact d10 k k' (t e k) hk hk' (Or.inl rfl) (Or.inl w)
  · unfold m_eo
    rw [(m0 e).1, (m0 e).2]
    exact ⟨fun i j a b y => (by simp at y), fun a y => (by cases y), fun y => by cases y⟩
  · obtain ⟨-, h0, n1, n2, n3, n4, n5, n6, n7⟩ := rC c hc
    refine ⟨by rw [eC c hc]; exact n1, by rw [eC c hc, e4 c hc]; exact n3, by rw [e4 c hc]; exact n4, fun j hj => ?_⟩
    rw [e4 c hc, eV c j hc hj]
    exact (n6 j hj).1
  · obtain ⟨e, k, he, hk, y⟩ := tI i hi
    obtain ⟨e', k', he', hk', y'⟩ := tI i' hi'
    subst y; subst y'
    rw [eT e k hk, eT e' k' hk'] at w
    have := dE e e' (t e k) he he' (tB e k hk) (by rw [w]; exact tB e' k' hk')
    subst this
    rw [(rE e he).2.2.2.2.2.2.2.2.2.2 k k' (t e k) hk hk' (Or.inl rfl) (Or.inl w)]
  · refine (hO b).2.2 (fun e he y => ?_)
    obtain ⟨s', q1, q2⟩ := edB_s (rE e he).2 y
    rw [hs] at q1
    cases q1
    rw [n] at q2
    cases q2
