/-! THE WHOLE CLASS: what its heap holds -/
def es (s : jv_S) : Bool := match s with
  | .inl n => n == 2 || n == 3 || n == 5
  | .inr (.int, n) => n == 3 || n == 10
  | .inr (.object C, _) => C == "LinkArchive$Type" || C == "LinkArchive$Member"
  | _ => false
def ks (s : jv_S) : Bool := match s with
  | .inl n => n == 1
  | .inr (.int, n) => n == 230 || n == 2048
  | .inr (.boolean, n) => n == 230
  | .inr (.long, n) => n == 32
  | _ => false
def us (s : jv_S) : Bool := match s with
  | .inl n => n == 0 || n == 6
  | _ => false
def as_ (s : jv_S) : Bool := match s with
  | .inl n => n == 7
  | .inr (.int, n) => n == 64
  | _ => false
def cs (s : jv_S) : Bool := es s || ks s || us s || as_ s
/-- only cells of the shapes P may have changed -/
def sF (P : jv_S → Bool) (h h' : jv_H) : Prop := jv_sh h' = jv_sh h ∧ ∀ b s, jv_sh h b = some s → P s = false → smA b h h'
theorem sF.rf {P : jv_S → Bool} {h : jv_H} : sF P h h := ⟨rfl, fun _ _ _ _ => ⟨fun _ => rfl, fun _ => rfl, fun _ => rfl⟩⟩
theorem sF.tr {P : jv_S → Bool} {h h1 h2 : jv_H} (a : sF P h h1) (b : sF P h1 h2) : sF P h h2 := ⟨b.1.trans a.1, fun c s e n => by
  have x := a.2 c s e n
  have y := b.2 c s (by rw [a.1]; exact e) n
  exact ⟨fun j => (y.1 j).trans (x.1 j), fun j => (y.2.1 j).trans (x.2.1 j), fun j => (y.2.2 j).trans (x.2.2 j)⟩⟩
theorem sF.mono {P P' : jv_S → Bool} {h h1 : jv_H} (a : sF P h h1) (m : ∀ s, P s = true → P' s = true) : sF P' h h1 := ⟨a.1, fun c s e n => a.2 c s e (by
  cases q : P s with
  | false => rfl
  | true => rw [m s q] at n; cases n)⟩
theorem cG.sF {S : Nat → Prop} {P : jv_S → Bool} {h h1 : jv_H} (a : cG S h h1) (m : ∀ b s, jv_sh h b = some s → S b → P s = true) : sF P h h1 := ⟨a.1, fun c s e n => a.2 c (fun q => by rw [m c s e q] at n; cases n)⟩
theorem sF.sh {P : jv_S → Bool} {h h1 : jv_H} (a : sF P h h1) (b : Nat) : jv_sh h1 b = jv_sh h b := congrFun a.1 b
theorem sF.i {P : jv_S → Bool} {h h1 : jv_H} (a : sF P h h1) {b : Nat} {s : jv_S} (e : jv_sh h b = some s) (n : P s = false) (j : Nat) : jv_I h1 b j = jv_I h b j := (a.2 b s e n).1 j
theorem sF.l {P : jv_S → Bool} {h h1 : jv_H} (a : sF P h h1) {b : Nat} {s : jv_S} (e : jv_sh h b = some s) (n : P s = false) (j : Nat) : jv_L h1 b j = jv_L h b j := (a.2 b s e n).2.1 j
theorem sF.p {P : jv_S → Bool} {h h1 : jv_H} (a : sF P h h1) {b : Nat} {s : jv_S} (e : jv_sh h b = some s) (n : P s = false) (j : Nat) : jv_P h1 b j = jv_P h b j := (a.2 b s e n).2.2 j
def c_U (M : mA) (C : mC) (U : mU) : cU := (mu_k U, mu_t U, ky (mu_n U) (mu_s U), mu_r U, c_cv (ma_t M (mc_e C)) (m_Us (ma_t M (mc_e C))) (mu_k U) (mu_t U) (ky (mu_n U) (mu_s U)), c_ow (ma_t M (mc_e C)) (m_Us (ma_t M (mc_e C))) (mu_k U) (mu_t U) (mu_r U) (ky (mu_n U) (mu_s U)))
def c_fit (A B : List mT) : Bool := c_af A B (m_Us A) (m_Us B)
def cl_A (z : Nat → Nat → Nat) (h : jv_H) : Prop := jv_sh h (z 6 0) = some (.inl 7) ∧ jv_P h (z 6 0) 0 = some (z 6 1) ∧ jv_sh h (z 6 1) = some (.inr (.object "LinkArchive$Edition", 8)) ∧ jv_P h (z 6 0) 2 = some (z 6 2) ∧ jv_sh h (z 6 2) = some (.inr (.object "LinkArchive$Caller", 12)) ∧ jv_P h (z 6 0) 4 = some (z 6 3) ∧ jv_P h (z 6 0) 5 = some (z 6 4) ∧ jv_P h (z 6 0) 6 = some (z 6 5) ∧ jv_sh h (z 6 5) = some (.inr (.int, 64)) ∧ (∀ e, e < 8 → jv_P h (z 6 1) e = some (z 0 e)) ∧ ∀ c, c < 12 → jv_P h (z 6 2) c = some (z 3 c)
def cl_N (z : Nat → Nat → Nat) (h : jv_H) (M : mA) : Prop := jv_I h (z 6 0) 1 = nI M.1.length ∧ M.1.length ≤ 8 ∧ jv_I h (z 6 0) 3 = nI M.2.length ∧ M.2.length ≤ 12
def cl_E (z : Nat → Nat → Nat) (T : Nat → Nat) (N : Nat → Nat → Nat) (tO : Nat → Nat) (h : jv_H) (M : mA) (e : Nat) : Prop := cv_E z T N h e (ma_t M e) ∧ el_o z T N tO e ∧ jv_I h (z 0 e) 1 = jv_bI (ma_s M e) ∧ (ma_s M e = true → cv_Us z T h e (ma_t M e) (m_Us (ma_t M e)))
def m_eo (M : mA) (e : Nat) : Prop := m_uq (ma_t M e) ∧ (∀ t ∈ ma_t M e, m_uk t ∧ (mt_i t = true → mt_a t = true) ∧ m_kc t) ∧ (ma_s M e = true → m_so (ma_t M e))
def cl_C (z : Nat → Nat → Nat) (h : jv_H) (M : mA) (c : Nat) (C : mC) : Prop := cv_ca h (z 3 c) (mc_e C) (mc_p C) (mc_u C) ∧ jv_I h (z 3 c) 4 = nI (mc_l C).length ∧ ∀ (j : Nat) U, (mc_l C)[j]? = some U → cv_us h (z 5 (20 * c + j)) (c_U M C U)
def cl_K (z : Nat → Nat → Nat) (h : jv_H) (M : mA) : Prop := cl_k z h ∧ (jv_I h (z 6 3) 1 = -1 ∨ ∃ a b, a < M.1.length ∧ b < M.1.length ∧ ma_s M a = true ∧ ma_s M b = true ∧ jv_I h (z 6 3) 1 = nI a ∧ jv_I h (z 6 3) 2 = nI b ∧ dS z h (m_mvt (ma_t M a) (ma_t M b) 16) (m_dfs M a b))
def cl_F (z : Nat → Nat → Nat) (h : jv_H) (M : mA) : Prop := ∀ a b, a < 8 → b < 8 → jv_I h (z 6 5) (8 * a + b) = nI 0 ∨ (a < M.1.length ∧ b < M.1.length ∧ ma_s M a = true ∧ ma_s M b = true ∧ jv_I h (z 6 5) (8 * a + b) = nI (if c_fit (ma_t M a) (ma_t M b) then 2 else 1))
def cl_D (z : Nat → Nat → Nat) (T : Nat → Nat) (tO : Nat → Nat) (h : jv_H) : Prop := (∀ e e', e < 8 → e' < 8 → z 0 e = z 0 e' → e = e') ∧ (∀ i i', i < 80 → i' < 80 → T i = T i' → i = i') ∧ (∀ c c', c ≤ 12 → c' ≤ 12 → z 3 c = z 3 c' → c = c') ∧ (∀ u u', u ≤ 260 → u' ≤ 260 → z 5 u = z 5 u' → u = u') ∧ (∀ u, u ≤ 260 → jv_sh h (z 5 u) = some (.inl 6)) ∧ ∀ b s, jv_sh h b = some s → es s = false → tO b = b
def cl_R (z : Nat → Nat → Nat) (T : Nat → Nat) (N : Nat → Nat → Nat) (tO : Nat → Nat) (h : jv_H) (M : mA) : Prop := (cl_A z h ∧ cl_N z h M ∧ (∀ e, e < 8 → cl_E z T N tO h M e) ∧ (∀ e, e < 8 → m_eo M e)) ∧ ((∀ c, c < 12 → cl_c z h c) ∧ ∀ c C, M.2[c]? = some C → cl_C z h M c C ∧ mc_ok M C) ∧ cl_K z h M ∧ cl_F z h M ∧ cl_p z h ∧ cl_D z T tO h
section SFL
variable {P : jv_S → Bool} {z : Nat → Nat → Nat} {T : Nat → Nat} {N : Nat → Nat → Nat} {tO : Nat → Nat} {h h1 : jv_H} {M : mA}
theorem sF.t (f : sF P h h1) (e5 : P (.inl 5) = false) (em : P (.inr (.object "LinkArchive$Member", 6)) = false) {a : Nat} (r : cl_t z N h a) : cl_t z N h1 a := by
  obtain ⟨r1, r2, r3, r4, r5, r6, r7, r8⟩ := r
  exact ⟨(f.sh a).trans r1, (f.p r1 e5 6).trans r2, (f.sh _).trans r3, (f.p r1 e5 8).trans r4, (f.sh _).trans r5, (f.p r1 e5 12).trans r6, (f.sh _).trans r7, fun j hj => ⟨(f.p r5 em j).trans (r8 j hj).1, (f.sh _).trans (r8 j hj).2⟩⟩
theorem sF.E (f : sF P h h1) (n : ∀ s, es s = true → P s = false) {e : Nat} {ts : List mT} (r : cv_E z T N h e ts) : cv_E z T N h1 e ts := by
  obtain ⟨⟨r1, r2, r3, r4, r5, r6, r7⟩, r8, r9, r10, r11, r12⟩ := r
  have n2 := n (.inl 2) rfl
  have n5 := n (.inl 5) rfl
  refine ⟨⟨(f.sh _).trans r1, (f.p r1 n2 2).trans r2, (f.sh _).trans r3, (f.p r1 n2 4).trans r4, (f.sh _).trans r5, (f.i r1 n2 0).trans r6, fun k hk => (f.p r3 (n _ rfl) k).trans (r7 k hk)⟩, fun k hk => f.t n5 (n _ rfl) (r8 k hk), (f.i r1 n2 3).trans r9, r10, fun k t ht => ?_, fun m hm => (f.p r5 (n _ rfl) m).trans (r12 m hm)⟩
  obtain ⟨q, qo⟩ := r11 k t ht
  have hk : k < 10 := by have := jv_ltGet ht; omega
  have tl := r8 k hk
  refine ⟨⟨(f.i tl.1 n5 0).trans q.1, (f.i tl.1 n5 1).trans q.2.1, (f.i tl.1 n5 2).trans q.2.2.1, (f.i tl.1 n5 3).trans q.2.2.2.1, (f.i tl.1 n5 4).trans q.2.2.2.2.1, (f.i tl.1 n5 5).trans q.2.2.2.2.2.1, (f.i tl.1 n5 7).trans q.2.2.2.2.2.2.1, (f.i tl.1 n5 9).trans q.2.2.2.2.2.2.2.1, (f.l tl.1 n5 10).trans q.2.2.2.2.2.2.2.2.1, (f.l tl.1 n5 11).trans q.2.2.2.2.2.2.2.2.2.1, fun j v y => (f.i tl.2.2.1 (n _ rfl) j).trans (ct_f q y), fun j m y => ?_⟩, qo⟩
  have hj : j < 6 := by have := jv_ltGet y; have := qo.2.2.2.2.2.1; omega
  have s3 := (tl.2.2.2.2.2.2.2 j hj).2
  have n3 := n (.inl 3) rfl
  have c := ct_m q y
  exact ⟨(f.i s3 n3 0).trans c.1, (f.i s3 n3 1).trans c.2.1, (f.i s3 n3 2).trans c.2.2.1, (f.i s3 n3 3).trans c.2.2.2.1, (f.i s3 n3 4).trans c.2.2.2.2.1, (f.i s3 n3 5).trans c.2.2.2.2.2⟩
theorem sF.U (f : sF P h h1) (n : ∀ s, es s = true → P s = false) {e : Nat} {ts : List mT} {Us : Nat → List Nat} (hE : cv_E z T N h e ts) (r : cv_Us z T h e ts Us) : cv_Us z T h1 e ts Us := fun k hk => by
  have tl := hE.2.1 k (by have := hE.2.2.2.1; omega)
  obtain ⟨⟨u1, u2, u3⟩, u4⟩ := r k hk
  exact ⟨⟨(f.i tl.1 (n _ rfl) 13).trans u1, (f.i tl.1 (n _ rfl) 14).trans u2, fun j v y => (f.i tl.2.2.2.2.2.2.1 (n _ rfl) j).trans (u3 j v y)⟩, u4⟩
theorem sF.clE (f : sF P h h1) (n : ∀ s, es s = true → P s = false) {e : Nat} (r : cl_E z T N tO h M e) : cl_E z T N tO h1 M e := ⟨f.E n r.1, r.2.1, (f.i r.1.1.1 (n _ rfl) 1).trans r.2.2.1, fun q => f.U n r.1 (r.2.2.2 q)⟩
theorem sF.clA (f : sF P h h1) (n7 : P (.inl 7) = false) (ne : P (.inr (.object "LinkArchive$Edition", 8)) = false) (nc : P (.inr (.object "LinkArchive$Caller", 12)) = false) (r : cl_A z h) : cl_A z h1 := by
  obtain ⟨r1, r2, r3, r4, r5, r6, r7, r8, r9, r10, r11⟩ := r
  exact ⟨(f.sh _).trans r1, (f.p r1 n7 0).trans r2, (f.sh _).trans r3, (f.p r1 n7 2).trans r4, (f.sh _).trans r5, (f.p r1 n7 4).trans r6, (f.p r1 n7 5).trans r7, (f.p r1 n7 6).trans r8, (f.sh _).trans r9, fun e he => (f.p r3 ne e).trans (r10 e he), fun c hc => (f.p r5 nc c).trans (r11 c hc)⟩
theorem sF.clN (f : sF P h h1) (n7 : P (.inl 7) = false) (a : cl_A z h) (r : cl_N z h M) : cl_N z h1 M := ⟨(f.i a.1 n7 1).trans r.1, r.2.1, (f.i a.1 n7 3).trans r.2.2.1, r.2.2.2⟩
theorem sF.c (f : sF P h h1) (n0 : P (.inl 0) = false) (nu : P (.inr (.object "LinkArchive$Use", 20)) = false) {c : Nat} (r : cl_c z h c) : cl_c z h1 c := ⟨(f.sh _).trans r.1, (f.p r.1 n0 3).trans r.2.1, (f.sh _).trans r.2.2.1, fun j hj => (f.p r.2.2.1 nu j).trans (r.2.2.2 j hj)⟩
theorem sF.us (f : sF P h h1) (n6 : P (.inl 6) = false) {u : Nat} {x : cU} (r : cv_us h u x) : cv_us h1 u x := by
  obtain ⟨⟨r1, r2, r3, r4, r5, r6, r7⟩, r8⟩ := r
  exact ⟨⟨(f.sh _).trans r1, (f.i r1 n6 0).trans r2, (f.i r1 n6 1).trans r3, (f.i r1 n6 2).trans r4, (f.i r1 n6 3).trans r5, (f.i r1 n6 4).trans r6, (f.i r1 n6 5).trans r7⟩, r8⟩
theorem sF.clC (f : sF P h h1) (n0 : P (.inl 0) = false) (n6 : P (.inl 6) = false) {c : Nat} {C : mC} (r : cl_C z h M c C) : cl_C z h1 M c C := by
  obtain ⟨⟨r1, r2, r3, r4⟩, r5, r6⟩ := r
  exact ⟨⟨(f.sh _).trans r1, (f.i r1 n0 0).trans r2, (f.i r1 n0 1).trans r3, (f.i r1 n0 2).trans r4⟩, (f.i r1 n0 4).trans r5, fun j U hU => f.us n6 (r6 j U hU)⟩
theorem sF.k (f : sF P h h1) (n1 : P (.inl 1) = false) (r : cl_k z h) : cl_k z h1 := ⟨(f.sh _).trans r.1, fun k a b => ⟨(f.p r.1 n1 k).trans (r.2.1 k a b).1, (f.sh _).trans (r.2.1 k a b).2⟩, r.2.2⟩
theorem ck_ks {k : Nat} (h1 : 3 ≤ k) (h2 : k ≤ 9) : ks (.inr (ck_ty k, ck_n k)) = true := by
  rcases (by omega : k = 3 ∨ k = 4 ∨ k = 5 ∨ k = 6 ∨ k = 7 ∨ k = 8 ∨ k = 9) with e | e | e | e | e | e | e <;> subst e <;> rfl
theorem sF.dS (f : sF P h h1) (n : ∀ s, ks s = true → P s = false) {s : mS} {L : List mR} (r : dS z h s L) : dS z h1 s L := by
  obtain ⟨lk, ⟨m1, m2⟩, d, c0⟩ := r
  have ai : ∀ k, 3 ≤ k → k ≤ 9 → ∀ j, jv_I h1 (z 7 k) j = jv_I h (z 7 k) j := fun k a b j => f.i (lk.2.1 k a b).2 (n _ (ck_ks a b)) j
  have al : ∀ k, 3 ≤ k → k ≤ 9 → ∀ j, jv_L h1 (z 7 k) j = jv_L h (z 7 k) j := fun k a b j => f.l (lk.2.1 k a b).2 (n _ (ck_ks a b)) j
  refine ⟨f.k (n _ rfl) lk, ⟨fun K hK => (ai 8 (by decide) (by decide) K).trans (m1 K hK), fun r hr => ?_⟩, fun i r hr => ?_, (f.i lk.1 (n _ rfl) 0).trans c0⟩
  · obtain ⟨m, e1, e2⟩ := m2 r hr
    exact ⟨m, (al 9 (by decide) (by decide) r).trans e1, e2⟩
  · obtain ⟨d1, d2, d3, d4, d5⟩ := d i r hr
    exact ⟨(ai 3 (by decide) (by decide) i).trans d1, (ai 4 (by decide) (by decide) i).trans d2, (ai 5 (by decide) (by decide) i).trans d3, (ai 6 (by decide) (by decide) i).trans d4, (ai 7 (by decide) (by decide) i).trans d5⟩
theorem sF.clK (f : sF P h h1) (n : ∀ s, ks s = true → P s = false) (r : cl_K z h M) : cl_K z h1 M := by
  refine ⟨f.k (n _ rfl) r.1, ?_⟩
  rcases r.2 with q | ⟨a, b, q1, q2, q3, q4, q5, q6, q7⟩
  · exact Or.inl ((f.i r.1.1 (n _ rfl) 1).trans q)
  · exact Or.inr ⟨a, b, q1, q2, q3, q4, (f.i r.1.1 (n _ rfl) 1).trans q5, (f.i r.1.1 (n _ rfl) 2).trans q6, f.dS n q7⟩
theorem sF.clF (f : sF P h h1) (n : P (.inr (.int, 64)) = false) (a : cl_A z h) (r : cl_F z h M) : cl_F z h1 M := fun x y hx hy => by
  have e := f.i a.2.2.2.2.2.2.2.2.1 n (8 * x + y)
  rcases r x y hx hy with q | ⟨q1, q2, q3, q4, q5⟩
  · exact Or.inl (e.trans q)
  · exact Or.inr ⟨q1, q2, q3, q4, e.trans q5⟩
theorem sF.clp (f : sF P h h1) (n4 : P (.inl 4) = false) (r : cl_p z h) : cl_p z h1 := ⟨(f.sh _).trans r.1, (f.p r.1 n4 0).trans r.2.1, (f.p r.1 n4 1).trans r.2.2.1, (f.sh _).trans r.2.2.2.1, (f.sh _).trans r.2.2.2.2⟩
theorem sF.clD (f : sF P h h1) (r : cl_D z T tO h) : cl_D z T tO h1 := ⟨r.1, r.2.1, r.2.2.1, r.2.2.2.1, fun u hu => (f.sh _).trans (r.2.2.2.2.1 u hu), fun b s e => r.2.2.2.2.2 b s ((f.sh b).symm.trans e)⟩
/-- shapes of the class that no method of it touches, and all others -/
def cn (s : jv_S) : Bool := cs s || decide (s = .inl 4) || decide (s = .inr (.object "LinkArchive$Edition", 8)) || decide (s = .inr (.object "LinkArchive$Caller", 12)) || decide (s = .inr (.object "LinkArchive$Use", 20))
theorem cn_of {s : jv_S} (h : cs s = true) : cn s = true := by unfold cn; rw [h]; rfl
theorem sF.R (f : sF P h h1) (n : ∀ s, cn s = true → P s = false) (r : cl_R z T N tO h M) : cl_R z T N tO h1 M := by
  obtain ⟨⟨a, nn, e, eo⟩, ⟨c, cc⟩, k, fi, p, d⟩ := r
  have ne : ∀ s, es s = true → P s = false := fun s q => n s (cn_of (by unfold cs; rw [q]; rfl))
  have nk : ∀ s, ks s = true → P s = false := fun s q => n s (cn_of (by unfold cs; rw [q]; simp))
  exact ⟨⟨f.clA (n _ rfl) (n _ rfl) (n _ rfl) a, f.clN (n _ rfl) a nn, fun x hx => f.clE ne (e x hx), eo⟩, ⟨fun x hx => f.c (n _ rfl) (n _ rfl) (c x hx), fun x C hC => ⟨f.clC (n _ rfl) (n _ rfl) (cc x C hC).1, (cc x C hC).2⟩⟩, f.clK nk k, f.clF (n _ rfl) a fi, f.clp (n _ rfl) p, f.clD d⟩
end SFL
