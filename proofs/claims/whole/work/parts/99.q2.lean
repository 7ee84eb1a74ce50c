/-! more answers -/
theorem n_012 {p : Int32} (h0 : ¬ p = nI 0) (h1 : ¬ p = nI 1) (h2 : ¬ p = nI 2) : p.toInt < 0 ∨ 2 < p.toInt := by
  have e0 : (nI 0).toInt = 0 := by decide
  have e1 : (nI 1).toInt = 1 := by decide
  have e2 : (nI 2).toInt = 2 := by decide
  have a0 : ¬ p.toInt = 0 := fun q => h0 (Int32.toInt_inj.mp (q.trans e0.symm))
  have a1 : ¬ p.toInt = 1 := fun q => h1 (Int32.toInt_inj.mp (q.trans e1.symm))
  have a2 : ¬ p.toInt = 2 := fun q => h2 (Int32.toInt_inj.mp (q.trans e2.symm))
  omega
theorem n_01 {p : Int32} (h0 : ¬ p = nI 0) (h1 : ¬ p = nI 1) : ¬ (0 : Int) = p.toInt ∧ ¬ (1 : Int) = p.toInt := by
  have e0 : (nI 0).toInt = 0 := by decide
  have e1 : (nI 1).toInt = 1 := by decide
  exact ⟨fun q => h0 (Int32.toInt_inj.mp (q.symm.trans e0.symm)), fun q => h1 (Int32.toInt_inj.mp (q.symm.trans e1.symm))⟩
theorem look_eq {M : mA} {e w : Int32} {k : Nat} (h : m_ix1 M.1.length e = some k) : m_look M e w = if w = 0 then jv_bI (ma_s M k) else if w = nI 1 then nI (ma_t M k).length else if w = nI 2 then nI (m_sm (m_ml (ma_t M k)) (ma_t M k).length) else -1 := by unfold m_look; rw [h]
theorem best_eq {M : mA} {c : Int32} {old : Bool} {k : Nat} {C : mC} (h : m_ix1 M.2.length c = some k) (hC : M.2[k]? = some C) : m_best M c old = jv_oN (m_bst (fun e => m_wl M C e (mc_l C).length) old M.1.length) := by unfold m_best; rw [h]; dsimp only; rw [hC]
theorem wl_no {M : mA} {C : mC} {i : Nat} (h : ma_s M i = false) : ∀ n, m_wl M C i n = false
  | 0 => h
  | n + 1 => by rw [m_wl, wl_no h n]; rfl
theorem wl_ct {M : mA} {C : mC} {i : Nat} (h : ma_s M i = true) (hlt : ∀ (j : Nat) U, (mc_l C)[j]? = some U → (m_mu M C i U).1 < 10) : ∀ n, n ≤ (mc_l C).length → m_wl M C i n = decide (fb_ct (m_mtp M C i (nI 0)) n = n)
  | 0, _ => by rw [m_wl, h]; rfl
  | n + 1, hn => by
    have ih := wl_ct h hlt n (by omega)
    have hle := fb_ct_le (m_mtp M C i (nI 0)) n
    obtain ⟨U, hU⟩ := jv_getLt (l := mc_l C) (k := n) (by omega)
    have hb := hlt n U hU
    have ep : m_mtp M C i (nI 0) n = ((m_mu M C i U).1 == 0) := by
      unfold m_mtp
      rw [hU]
      show decide (nI (m_mu M C i U).1 = nI 0) = _
      rw [Bool.eq_iff_iff, decide_eq_true_iff, nI_eq (by omega) (by omega), beq_iff_eq]
    rw [m_wl, ih, hU, fb_ct_succ, ep]
    show (decide (fb_ct (m_mtp M C i (nI 0)) n = n) && ((m_mu M C i U).1 == 0)) = _
    cases hq : ((m_mu M C i U).1 == 0) with
    | true =>
      rw [Bool.and_true, if_pos rfl, decide_eq_decide]
      omega
    | false =>
      rw [Bool.and_false, if_neg (by decide)]
      exact (decide_eq_false (by omega)).symm
theorem mux_lt {M : mA} {C : mC} {e : Nat} {U : mU} (hsC : m_so (ma_t M (mc_e C))) (hs : m_so (ma_t M e)) (hu : ∀ u, mc_u C = some u → u < 16) (hk : mu_k U < 6) : (m_mu M C e U).1 < 10 := by
  rw [(mu_eq hsC hs hu hk).1]
  exact me_lt _ _ _ _ _ _ _ _ _ _ _
section CR
variable {z : Nat → Nat → Nat} {T : Nat → Nat} {N : Nat → Nat → Nat} {tO : Nat → Nat} {h h1 : jv_H} {M : mA}
theorem sk_F (lk : cl_k z h) (f : cF (SK z) h h1) : sF ks h h1 := f.G.sF (fun b s e q => by
  have key : ∀ k, 3 ≤ k → k ≤ 9 → b = z 7 k → ks s = true := fun k a1 a2 q => by
    have := (lk.2.1 k a1 a2).2
    rw [← q, e] at this
    cases this
    exact ck_ks a1 a2
  rcases q with (q | ⟨k, a1, a2, q⟩) | q | q
  · rw [q, lk.1] at e; cases e; rfl
  · exact key k a1 (by omega) q
  · exact key 8 (by decide) (by decide) q
  · exact key 9 (by decide) (by decide) q)
theorem cl_R.K (hR : cl_R z T N tO h M) (f : sF ks h h1) (K : cl_K z h1 M) : cl_R z T N tO h1 M := by
  obtain ⟨⟨a, nn, e, eo⟩, ⟨c, cc⟩, k, fi, p, d⟩ := hR
  have ne : ∀ s, es s = true → ks s = false := fun s q => by
    unfold es at q
    unfold ks
    split at q
    · rename_i n
      simp at q
      rcases q with (q | q) | q <;> subst q <;> rfl
    · rename_i n
      simp at q
      rcases q with q | q <;> subst q <;> rfl
    · rfl
    · cases q
  exact ⟨⟨f.clA rfl rfl rfl a, f.clN rfl a nn, fun x hx => f.clE ne (e x hx), eo⟩, ⟨fun x hx => f.c rfl rfl (c x hx), fun x C hC => ⟨f.clC rfl rfl (cc x C hC).1, (cc x C hC).2⟩⟩, K, f.clF rfl a fi, f.clp rfl p, f.clD d⟩
theorem ks_cs : ∀ s, ks s = true → cs s = true := fun s q => by unfold cs; rw [q]; simp
theorem us_cs : ∀ s, us s = true → cs s = true := fun s q => by unfold cs; rw [q]; simp
theorem es_cs : ∀ s, es s = true → cs s = true := fun s q => by unfold cs; rw [q]; rfl
theorem as_cs : ∀ s, as_ s = true → cs s = true := fun s q => by unfold cs; rw [q]; simp
theorem hcv_of (hR : cl_R z T N tO h M) {a b : Nat} (ha : a < 8) (hb : b < 8) : jv_I h (z 6 3) 1 = nI a → jv_I h (z 6 3) 2 = nI b → dS z h (m_mvt (ma_t M a) (ma_t M b) 16) (m_df (ma_t M a) (ma_t M b) (m_mvt (ma_t M a) (ma_t M b) 16) 16) := fun e1 e2 => by
  have hl := hR.1.2.1.2.1
  rcases hR.2.2.1.2 with q | ⟨a', b', q1, q2, q3, q4, q5, q6, q7⟩
  · rw [q] at e1
    exact absurd e1.symm (jv_nI_m1 (by omega))
  · have ea : a' = a := (nI_eq (by omega) (by omega)).mp (q5.symm.trans e1)
    have eb : b' = b := (nI_eq (by omega) (by omega)).mp (q6.symm.trans e2)
    subst ea; subst eb
    exact q7
theorem differ_eq {a b : Int32} {i j : Nat} (h1 : m_ix1 M.1.length a = some i) (h2 : m_ix1 M.1.length b = some j) : m_differ M a b = nI (m_dfs M i j).length := by unfold m_differ; rw [h1, h2]
theorem sp_F (lp : cl_p z h) (f : cF (SP z) h h1) : sF us h h1 := f.G.sF (fun b s e q => by
  rcases q with q | q
  · rw [q, lp.2.2.2.1] at e; cases e; rfl
  · rw [q, lp.2.2.2.2] at e; cases e; rfl)
/-- the probe's caller and trial are no caller's of ours -/
theorem cl_R.P (hR : cl_R z T N tO h M) (f : cF (SP z) h h1) : cl_R z T N tO h1 M := by
  have g := sp_F hR.2.2.2.2.1 f
  obtain ⟨⟨a, nn, e, eo⟩, ⟨c, cc⟩, k, fi, p, d⟩ := hR
  have ne : ∀ s, es s = true → us s = false := fun s q => by
    unfold es at q
    unfold us
    split at q
    · rename_i n
      simp at q
      rcases q with (q | q) | q <;> subst q <;> rfl
    · rfl
    · rfl
    · cases q
  have nk : ∀ s, ks s = true → us s = false := fun s q => by
    unfold ks at q
    unfold us
    split at q
    · rename_i n
      simp at q
      subst q; rfl
    · rfl
    · rfl
    · rfl
    · cases q
  have n3 : ∀ x, x < 12 → ¬ SP z (z 3 x) := fun x hx q => by
    rcases q with q | q
    · have := d.2.2.1 x 12 (by omega) (by decide) q; omega
    · have s := (c x hx).1
      rw [q, p.2.2.2.2] at s; cases s
  have n5 : ∀ u, u < 260 → ¬ SP z (z 5 u) := fun u hu q => by
    rcases q with q | q
    · have s := d.2.2.2.2.1 u (by omega)
      rw [q, p.2.2.2.1] at s; cases s
    · have := d.2.2.2.1 u 260 (by omega) (by decide) q; omega
  refine ⟨⟨g.clA rfl rfl rfl a, g.clN rfl a nn, fun x hx => g.clE ne (e x hx), eo⟩, ⟨fun x hx => ?_, fun x C hC => ⟨?_, (cc x C hC).2⟩⟩, g.clK nk k, g.clF rfl a fi, sp_L f p, g.clD d⟩
  · obtain ⟨c1, c2, c3, c4⟩ := c x hx
    exact ⟨(congrFun f.1 _).trans c1, (f.p _ _).trans c2, (congrFun f.1 _).trans c3, fun j hj => (f.p _ _).trans (c4 j hj)⟩
  · have hx : x < 12 := by have := jv_ltGet hC; have := nn.2.2.2; omega
    obtain ⟨q1, q2, q3⟩ := (cc x C hC).1
    refine ⟨q1.fr f (n3 x hx), (f.i (n3 x hx) 4).trans q2, fun j U hU => ?_⟩
    obtain ⟨u1, u2⟩ := q3 j U hU
    have hj : j < 20 := by have := jv_ltGet hU; have := (cc x C hC).2.2.2.2.2.1; omega
    exact ⟨u1.fr f (n5 _ (by omega)), u2⟩
/-- a pair's fit is kept -/
theorem cl_R.F (hR : cl_R z T N tO h M) {a b : Nat} (ha : a < M.1.length) (hb : b < M.1.length) (sa : ma_s M a = true) (sb : ma_s M b = true) {i : Nat} (hi : i = 8 * a + b) : cl_R z T N tO (jv_wI h (z 6 5) i (nI (if c_fit (ma_t M a) (ma_t M b) then 2 else 1))) M ∧ sF as_ h (jv_wI h (z 6 5) i (nI (if c_fit (ma_t M a) (ma_t M b) then 2 else 1))) := by
  subst hi
  have hl := hR.1.2.1.2.1
  have f : cF (fun b => b = z 6 5) h (jv_wI h (z 6 5) (8 * a + b) (nI (if c_fit (ma_t M a) (ma_t M b) then 2 else 1))) := (cF.rf (S := fun b => b = z 6 5)).wI (b := z 6 5) rfl _ _
  have s5 := hR.1.1.2.2.2.2.2.2.2.2.1
  have P : jv_S → Bool := fun s => decide (s = .inr (.int, 64))
  have g : sF (fun s => decide (s = .inr (.int, 64))) h (jv_wI h (z 6 5) (8 * a + b) (nI (if c_fit (ma_t M a) (ma_t M b) then 2 else 1))) := f.G.sF (fun c s e q => by
    rw [q, s5] at e; cases e; exact decide_eq_true rfl)
  have g2 : sF as_ h (jv_wI h (z 6 5) (8 * a + b) (nI (if c_fit (ma_t M a) (ma_t M b) then 2 else 1))) := f.G.sF (fun c s e q => by
    rw [q, s5] at e; cases e; rfl)
  obtain ⟨⟨A, nn, e, eo⟩, ⟨c, cc⟩, k, fi, p, d⟩ := hR
  have no : ∀ s : jv_S, ¬ s = .inr (.int, 64) → (fun s => decide (s = .inr (.int, 64))) s = false := fun s q => decide_eq_false q
  refine ⟨⟨⟨g.clA (no _ (by intro q; cases q)) (no _ (by intro q; cases q)) (no _ (by intro q; cases q)) A, g.clN (no _ (by intro q; cases q)) A nn, fun x hx => g.clE (fun s q => no s (fun y => by subst y; cases q)) (e x hx), eo⟩, ⟨fun x hx => g.c (no _ (by intro q; cases q)) (no _ (by intro q; cases q)) (c x hx), fun x C hC => ⟨g.clC (no _ (by intro q; cases q)) (no _ (by intro q; cases q)) (cc x C hC).1, (cc x C hC).2⟩⟩, g.clK (fun s q => no s (fun y => by subst y; cases q)) k, fun x y hx hy => ?_, g.clp (no _ (by intro q; cases q)) p, g.clD d⟩, g2⟩
  by_cases q : x = a ∧ y = b
  · obtain ⟨q1, q2⟩ := q
    subst q1; subst q2
    exact Or.inr ⟨ha, hb, sa, sb, jv_I_self _ _ _ _⟩
  · rw [oI_o, if_neg (fun y2 => q (by omega))]
    exact fi x y hx hy
end CR
