/-! an edition anew -/
theorem rr_in0 {v : Int32} {k : Nat} (hk : k + 1 < 2 ^ 31) : rr_in v (nI 0) (nI k) = rr_lt v (k + 1) := by
  unfold rr_in rr_lt
  have h0 : (nI 0) = (0 : Int32) := rfl
  rw [h0]
  congr 2
  rw [decide_eq_decide, Int32.lt_iff_toInt_lt, Int32.le_iff_toInt_le, nI_toInt (by omega), nI_toInt (by omega)]
  omega
theorem rr_in1 {v : Int32} {k : Nat} (hk : k + 1 < 2 ^ 31) : rr_in v (-1) (nI k) = (decide (v = -1) || rr_lt v (k + 1)) := by
  unfold rr_in rr_lt
  have h0 : (0 : Int32).toInt = 0 := by decide
  have h1 : (-1 : Int32).toInt = -1 := by decide
  have e1 : v < -1 ↔ v.toInt < -1 := by rw [Int32.lt_iff_toInt_lt, h1]
  have e2 : nI k < v ↔ (k : Int) < v.toInt := by rw [Int32.lt_iff_toInt_lt, nI_toInt (by omega)]
  have e3 : v < 0 ↔ v.toInt < 0 := by rw [Int32.lt_iff_toInt_lt, h0]
  have e4 : nI (k + 1) ≤ v ↔ ((k + 1 : Nat) : Int) ≤ v.toInt := by rw [Int32.le_iff_toInt_le, nI_toInt (by omega)]
  have e5 : v = -1 ↔ v.toInt = -1 := by rw [← Int32.toInt_inj, h1]
  rw [Bool.eq_iff_iff]
  simp only [Bool.and_eq_true, Bool.or_eq_true, Bool.not_eq_true', decide_eq_false_iff_not, decide_eq_true_iff, e1, e2, e3, e4, e5]
  omega
theorem sh_no {h : jv_H} {a b : Nat} {s s' : jv_S} (h1 : jv_sh h a = some s) (h2 : jv_sh h b = some s') (n : s ≠ s') : a ≠ b := fun q => by
  subst q
  rw [h1] at h2
  exact n (Option.some.inj h2)
section ED
variable {z : Nat → Nat → Nat} {T T' : Nat → Nat} {N N' : Nat → Nat → Nat} {tO : Nat → Nat} {h h1 : jv_H} {M : mA} {e : Nat}
theorem cl_R.T5 (hR : cl_R z T N tO h M) {i : Nat} (hi : i < 80) : jv_sh h (T i) = some (.inl 5) := by
  have := ((hR.1.2.2.1 (i / 10) (by omega)).1.2.1 (i % 10) (by omega)).1
  rw [show 10 * (i / 10) + i % 10 = i by omega] at this
  exact this
theorem cl_R.E2 (hR : cl_R z T N tO h M) {e : Nat} (he : e < 8) : jv_sh h (z 0 e) = some (.inl 2) := (hR.1.2.2.1 e he).1.1.1
theorem se_F (hR : cl_R z T N tO h M) (he : e < 8) (f : cG (fun b => tO b = z 0 e ∨ ∃ k, k < 10 ∧ tO b = T (10 * e + k)) h h1) : sF es h h1 := f.sF (fun b s hs q => by
  cases hes : es s with
  | true => rfl
  | false =>
    have ho := hR.2.2.2.2.2.2.2.2.2.2 b s hs hes
    rw [ho] at q
    rcases q with q | ⟨k, hk, q⟩
    · rw [q, hR.E2 he] at hs; cases hs; cases hes
    · rw [q, hR.T5 (show 10 * e + k < 80 by omega)] at hs; cases hs; cases hes)
theorem cv_E.TN {ts : List mT} (r : cv_E z T N h e ts) (hT : ∀ k, k < 10 → T' (10 * e + k) = T (10 * e + k)) (hN : ∀ k, k < 10 → ∀ j, N' (T (10 * e + k)) j = N (T (10 * e + k)) j) : cv_E z T' N' h e ts := by
  obtain ⟨⟨r1, r2, r3, r4, r5, r6, r7⟩, r8, r9, r10, r11, r12⟩ := r
  refine ⟨⟨r1, r2, r3, r4, r5, r6, fun k hk => by rw [hT k hk]; exact r7 k hk⟩, fun k hk => ?_, r9, r10, fun k t ht => ?_, fun n hn => ?_⟩
  · rw [hT k hk]
    obtain ⟨a1, a2, a3, a4, a5, a6, a7, a8⟩ := r8 k hk
    exact ⟨a1, a2, a3, a4, a5, a6, a7, fun j hj => by rw [hN k hk j]; exact a8 j hj⟩
  · have hk : k < 10 := by have := jv_ltGet ht; omega
    rw [hT k hk]
    obtain ⟨⟨b1, b2, b3, b4, b5, b6, b7, b8, b9, b10, b11, b12⟩, ok⟩ := r11 k t ht
    exact ⟨⟨b1, b2, b3, b4, b5, b6, b7, b8, b9, b10, b11, fun j m hm => by rw [hN k hk j]; exact b12 j m hm⟩, ok⟩
  · rw [r12 n hn]
    cases hm : m_at ts (nI n) with
    | none => rfl
    | some k =>
      obtain ⟨t, ht, -⟩ := m_at_get hm
      have hk : k < 10 := by have := jv_ltGet ht; omega
      show some (T (10 * e + k)) = some (T' (10 * e + k))
      rw [hT k hk]
theorem el_o.TN (r : el_o z T N tO e) (hT : ∀ k, k < 10 → T' (10 * e + k) = T (10 * e + k)) (hN : ∀ k, k < 10 → ∀ j, N' (T (10 * e + k)) j = N (T (10 * e + k)) j) : el_o z T' N' tO e := by
  obtain ⟨r1, r2, r3, r4, r5⟩ := r
  refine ⟨r1, r2, r3, fun k hk => ?_, fun k k' hk hk' q => by rw [hT k hk, hT k' hk'] at q; exact r5 k k' hk hk' q⟩
  rw [hT k hk]
  obtain ⟨a1, a2, a3, a4, a5, a6⟩ := r4 k hk
  exact ⟨a1, a2, a3, a4, fun j hj => by rw [hN k hk j]; exact a5 j hj, fun i j hi hj q => by rw [hN k hk i, hN k hk j] at q; exact a6 i j hi hj q⟩
theorem cG.Us {S : Nat → Prop} {ts : List mT} {Us : Nat → List Nat} (f : cG S h h1) (oe : el_o z T N tO e) (nT : ∀ k, k < 10 → ∀ b, tO b = T (10 * e + k) → ¬ S b) (hl : ts.length ≤ 10) (r : cv_Us z T h e ts Us) : cv_Us z T h1 e ts Us := fun k hk => by
  have hk10 : k < 10 := by omega
  have oa := oe.2.2.2.1 k hk10
  obtain ⟨⟨u1, u2, u3⟩, u4⟩ := r k hk
  exact ⟨⟨(f.i (nT k hk10 _ oa.1) 13).trans u1, (f.i (nT k hk10 _ oa.1) 14).trans u2, fun j v y => (f.i (nT k hk10 _ oa.2.2.2.1) j).trans (u3 j v y)⟩, u4⟩
theorem put_t {M : mA} {e e' : Nat} {E : mE} (n : e' ≠ e) : ma_t (m_put M e E) e' = ma_t M e' := (ma_put_ne n).1
theorem put_s {M : mA} {e e' : Nat} {E : mE} (n : e' ≠ e) : ma_s (m_put M e E) e' = ma_s M e' := (ma_put_ne n).2
theorem put_U {M : mA} {e : Nat} {E : mE} {C : mC} (n : mc_e C ≠ e) (U : mU) : c_U (m_put M e E) C U = c_U M C U := by
  unfold c_U
  rw [put_t n]
theorem put_l {M : mA} {e : Nat} {E : mE} : (m_put M e E).1.length = M.1.length := by simp [m_put]
theorem cl_R.ed (hR : cl_R z T N tO h M) (he : e < M.1.length) (hop : ma_s M e = false) (f : cG (fun b => tO b = z 0 e ∨ ∃ k, k < 10 ∧ tO b = T (10 * e + k)) h h1) (hT : ∀ i, i < 80 → (i < 10 * e ∨ 10 * e + 10 ≤ i) → T' i = T i) (hN : ∀ i, i < 80 → (i < 10 * e ∨ 10 * e + 10 ≤ i) → ∀ j, N' (T i) j = N (T i) j) (hTi : ∀ i i', i < 80 → i' < 80 → T' i = T' i' → i = i') (oe : el_o z T' N' tO e) {s : Bool} {ts : List mT} (hE : cv_E z T' N' h1 e ts) (hs : jv_I h1 (z 0 e) 1 = jv_bI s) (hU : s = true → cv_Us z T' h1 e ts (m_Us ts)) (eo : m_uq ts ∧ (∀ t ∈ ts, m_uk t ∧ (mt_i t = true → mt_a t = true) ∧ m_kc t) ∧ (s = true → m_so ts)) : cl_R z T' N' tO h1 (m_put M e (s, ts)) ∧ sF cs h h1 := by
  have he8 : e < 8 := by have := hR.1.2.1.2.1; omega
  have g := se_F hR he8 f
  have hE2 := fun e' (he' : e' < 8) => hR.E2 he'
  have hT5 := fun i (hi : i < 80) => hR.T5 hi
  obtain ⟨⟨a, nn, ee, eoo⟩, ⟨c, cc⟩, k, fi, p, d⟩ := hR
  have nk : ∀ s, ks s = true → es s = false := fun s q => by
    unfold ks at q
    unfold es
    split at q
    · simp at q
      subst q; rfl
    · simp at q
      rcases q with q | q <;> subst q <;> rfl
    · rfl
    · rfl
    · cases q
  have nS : ∀ {x : Nat}, ma_s M x = true → x ≠ e := fun q y => by rw [y, hop] at q; cases q
  refine ⟨⟨⟨g.clA rfl rfl rfl a, ?_, fun x hx => ?_, fun x hx => ?_⟩, ⟨fun x hx => g.c rfl rfl (c x hx), fun x C hC => ?_⟩, ?_, ?_, g.clp rfl p, d.1, hTi, d.2.2.1, d.2.2.2.1, fun u hu => (g.sh _).trans (d.2.2.2.2.1 u hu), fun b s' q => d.2.2.2.2.2 b s' ((g.sh b).symm.trans q)⟩, g.mono es_cs⟩
  · have := g.clN (M := M) rfl a nn
    exact ⟨by rw [put_l]; exact this.1, by rw [put_l]; exact this.2.1, this.2.2.1, this.2.2.2⟩
  · by_cases q : x = e
    · subst q
      unfold cl_E
      rw [(ma_put_same he).1, (ma_put_same he).2]
      exact ⟨hE, oe, hs, hU⟩
    · unfold cl_E
      rw [put_t q, put_s q]
      obtain ⟨e1, e2, e3, e4⟩ := ee x hx
      have hT' : ∀ k, k < 10 → T' (10 * x + k) = T (10 * x + k) := fun k hk => hT _ (by omega) (by omega)
      have hN' : ∀ k, k < 10 → ∀ j, N' (T (10 * x + k)) j = N (T (10 * x + k)) j := fun k hk => hN _ (by omega) (by omega)
      have n0 : ∀ b, tO b = z 0 x → ¬ (tO b = z 0 e ∨ ∃ k, k < 10 ∧ tO b = T (10 * e + k)) := fun b y y2 => by
        rw [y] at y2
        rcases y2 with y2 | ⟨k, hk, y2⟩
        · exact q (d.1 x e hx he8 y2)
        · exact sh_no (hE2 x hx) (hT5 (10 * e + k) (by omega)) (by intro q; cases q) y2
      have nT : ∀ k, k < 10 → ∀ b, tO b = T (10 * x + k) → ¬ (tO b = z 0 e ∨ ∃ k, k < 10 ∧ tO b = T (10 * e + k)) := fun k hk b y y2 => by
        rw [y] at y2
        rcases y2 with y2 | ⟨k', hk', y2⟩
        · exact sh_no (hT5 (10 * x + k) (by omega)) (hE2 e he8) (by intro q; cases q) y2
        · have := d.2.1 _ _ (by omega) (by omega) y2; omega
      have hf := f.E e2 n0 nT e1
      refine ⟨hf.TN hT' hN', e2.TN hT' hN', (f.i (n0 _ e2.1) 1).trans e3, fun y => ?_⟩
      have hu := f.Us e2 nT e1.2.2.2.1 (e4 y)
      intro k hk
      rw [hT' k (by have := e1.2.2.2.1; omega)]
      exact hu k hk
  · unfold m_eo
    by_cases q : x = e
    · subst q
      rw [(ma_put_same he).1, (ma_put_same he).2]
      exact eo
    · rw [put_t q, put_s q]
      exact eoo x hx
  · have hC' : M.2[x]? = some C := hC
    obtain ⟨c1, c2⟩ := cc x C hC'
    have ne := nS c2.2.1
    have q := g.clC rfl rfl c1
    refine ⟨⟨q.1, q.2.1, fun j U hU => by rw [put_U ne]; exact q.2.2 j U hU⟩, by rw [put_l]; exact c2.1, by rw [put_s ne]; exact c2.2.1, c2.2.2⟩
  · have q := g.clK nk k
    refine ⟨q.1, ?_⟩
    rcases q.2 with y | ⟨x, y, y1, y2, y3, y4, y5, y6, y7⟩
    · exact Or.inl y
    · refine Or.inr ⟨x, y, by rw [put_l]; exact y1, by rw [put_l]; exact y2, by rw [put_s (nS y3)]; exact y3, by rw [put_s (nS y4)]; exact y4, y5, y6, ?_⟩
      unfold m_dfs
      rw [put_t (nS y3), put_t (nS y4)]
      exact y7
  · have q := g.clF rfl a fi
    intro x y hx hy
    rcases q x y hx hy with y1 | ⟨y1, y2, y3, y4, y5⟩
    · exact Or.inl y1
    · refine Or.inr ⟨by rw [put_l]; exact y1, by rw [put_l]; exact y2, by rw [put_s (nS y3)]; exact y3, by rw [put_s (nS y4)]; exact y4, ?_⟩
      rw [put_t (nS y3), put_t (nS y4)]
      exact y5
theorem m_at_cong {ts ts' : List mT} (hl : ts'.length = ts.length) (hn : ∀ k : Nat, (ts'[k]?).map mt_n = (ts[k]?).map mt_n) (n : Int32) : m_at ts' n = m_at ts n := by
  unfold m_at
  rw [hl]
  congr 1
  funext k
  have := hn k
  cases h1 : ts'[k]? with
  | none =>
    rw [h1] at this
    cases h2 : ts[k]? with
    | none => rfl
    | some t => rw [h2] at this; cases this
  | some t' =>
    rw [h1] at this
    cases h2 : ts[k]? with
    | none => rw [h2] at this; cases this
    | some t =>
      rw [h2] at this
      have : mt_n t' = mt_n t := Option.some.inj this
      show decide _ = decide _
      rw [this]
theorem set_n {ts : List mT} {i : Nat} {t t' : mT} (ht : ts[i]? = some t) (hn : mt_n t' = mt_n t) : ∀ k : Nat, ((ts.set i t')[k]?).map mt_n = (ts[k]?).map mt_n := fun k => by
  by_cases q : k = i
  · subst q
    rw [List.getElem?_set_self (jv_ltGet ht), ht]
    exact congrArg some hn
  · rw [List.getElem?_set_ne (Ne.symm q)]
/-- a type anew -/
theorem cv_E.set {ts : List mT} {i : Nat} {t t' : mT} {S : Nat → Prop} (r : cv_E z T N h e ts) (oe : el_o z T N tO e) (ht : ts[i]? = some t) (hn : mt_n t' = mt_n t) (ok : mt_ok t') (f : cG S h h1) (hS : ∀ b, S b → tO b = T (10 * e + i)) (hN : ∀ k, k < 10 → k ≠ i → ∀ j, N' (T (10 * e + k)) j = N (T (10 * e + k)) j) (hl : cl_t z N' h1 (T (10 * e + i))) (hv : cv_T z N' h1 (T (10 * e + i)) t') : cv_E z T N' h1 e (ts.set i t') := by
  have hi10 : i < 10 := by have := jv_ltGet ht; have := r.2.2.2.1; omega
  have n0 : ∀ b, tO b = z 0 e → ¬ S b := fun b q y => by
    have := (hS b y).symm.trans q
    have h2 := r.1.1
    rw [← this, (r.2.1 i hi10).1] at h2
    cases h2
  have nT : ∀ k, k < 10 → k ≠ i → ∀ b, tO b = T (10 * e + k) → ¬ S b := fun k hk hki b q y => hki (oe.2.2.2.2 k i hk hi10 (q.symm.trans (hS b y)))
  have r' := r
  obtain ⟨⟨r1, r2, r3, r4, r5, r6, r7⟩, r8, r9, r10, r11, r12⟩ := r
  have a0 := n0 _ oe.1
  have a1 := n0 _ oe.2.1
  have a2 := n0 _ oe.2.2.1
  have hcl : ∀ k, k < 10 → cl_t z N' h1 (T (10 * e + k)) := fun k hk => by
    by_cases q : k = i
    · subst q; exact hl
    · obtain ⟨b1, b2, b3, b4, b5, b6, b7, b8⟩ := f.t (oe.2.2.2.1 k hk) (nT k hk q) (r8 k hk)
      exact ⟨b1, b2, b3, b4, b5, b6, b7, fun j hj => by rw [hN k hk q j]; exact b8 j hj⟩
  refine ⟨⟨(congrFun f.1 _).trans r1, (f.p a0 2).trans r2, (congrFun f.1 _).trans r3, (f.p a0 4).trans r4, (congrFun f.1 _).trans r5, (f.i a0 0).trans r6, fun k hk => (f.p a1 k).trans (r7 k hk)⟩, hcl, by rw [List.length_set]; exact (f.i a0 3).trans r9, by rw [List.length_set]; exact r10, fun k y hy => ?_, fun n hn' => ?_⟩
  · by_cases q : k = i
    · subst q
      rw [List.getElem?_set_self (jv_ltGet ht)] at hy
      cases hy
      exact ⟨hv, ok⟩
    · rw [List.getElem?_set_ne (Ne.symm q)] at hy
      have hk : k < 10 := by have := jv_ltGet hy; omega
      obtain ⟨v1, v2⟩ := r11 k y hy
      obtain ⟨c1, c2, c3, c4, c5, c6, c7, c8, c9, c10, c11, c12⟩ := f.vT v2 (oe.2.2.2.1 k hk) (nT k hk q) v1
      exact ⟨⟨c1, c2, c3, c4, c5, c6, c7, c8, c9, c10, c11, fun j m hm => by rw [hN k hk q j]; exact c12 j m hm⟩, v2⟩
  · rw [m_at_cong (List.length_set ..) (set_n ht hn)]
    exact (f.p a2 n).trans (r12 n hn')
theorem uq_set {ts : List mT} {i : Nat} {t t' : mT} (hu : m_uq ts) (ht : ts[i]? = some t) (hn : mt_n t' = mt_n t) : m_uq (ts.set i t') := by
  intro a b x y hx hy q
  have g : ∀ {a : Nat} {x : mT}, (ts.set i t')[a]? = some x → ∃ x', ts[a]? = some x' ∧ mt_n x' = mt_n x := fun {a x} hx => by
    have := set_n ht hn a
    rw [hx] at this
    cases h1 : ts[a]? with
    | none => rw [h1] at this; cases this
    | some x' =>
      rw [h1] at this
      exact ⟨x', rfl, (Option.some.inj this).symm⟩
  obtain ⟨x', hx', ex⟩ := g hx
  obtain ⟨y', hy', ey⟩ := g hy
  exact hu a b x' y' hx' hy' (by rw [ex, ey]; exact q)
theorem mem_set {ts : List mT} {i : Nat} {t' x : mT} (h : x ∈ ts.set i t') : x = t' ∨ x ∈ ts := by
  rcases List.mem_or_eq_of_mem_set h with q | q
  · exact Or.inr q
  · exact Or.inl q
end ED
