theorem r_metS {lA : Launch} (hlt : lA.stackTraces = false) {D : jv_D} {base : Nat} {x : Nat} {q : Nat → Nat} {h : jv_H} {c e ec kd pk : Nat} {su : Option Nat} {ty n s rc : Int32} {tsC ts : List mT} (hS : rf_S x q h) (hc : c < 13) (he : e < 8) (hec : ec < 8) (hE : rf_E q h e ts) (hV : rf_V q h e ts) (hEC : rf_E q h ec tsC) (hVC : rf_V q h ec tsC) (hce : jv_I h (q 22) c = nI ec) (hpk : jv_I h (q 23) c = nI pk) (hpk5 : pk < 5) (hsu : jv_I h (q 24) c = jv_oN su) (hsu16 : ∀ u, su = some u → u < 16) (hkd : kd < 6) (hg : ∀ k, k < ts.length → m_hg ts 11 k) (hgC : ∀ k, k < tsC.length → m_hg tsC 11 k) : jv_Met lA D base yX8_met (.code yX8_met cX8_met 14 (some .int)) 15 0 0 [.ref x, .int (nI c), .int (nI e), .int (nI kd), .int ty, .int n, .int s, .int rc] h (fun v h' => v = some (.int (nI (m_met (decide (e = ec)) tsC ts pk su kd ty n s rc).1)) ∧ rs x q h h' ∧ jv_I h' x 32 = jv_oN (m_met (decide (e = ec)) tsC ts pk su kd ty n s rc).2 ∧ jv_I h' x 0 = jv_I h x 0 ∧ jv_I h' (q 22) c = nI ec ∧ jv_I h' (q 23) c = nI pk ∧ jv_I h' (q 24) c = jv_oN su) jv_no := by
  have hk6 : kd = 0 ∨ kd = 1 ∨ kd = 2 ∨ kd = 3 ∨ kd = 4 ∨ kd = 5 := by omega
  rcases hk6 with rfl | rfl | rfl | rfl | rfl | rfl
  · exact r_met0 hlt hS hc he hec hE hV hEC hVC hce hpk hpk5 hsu hsu16 hg hgC
  · exact r_met1 hlt hS hc he hec hE hV hEC hVC hce hpk hpk5 hsu hsu16 hg hgC
  · exact r_met2 hlt hS hc he hec hE hV hEC hVC hce hpk hpk5 hsu hsu16 hg hgC
  · exact r_met3 hlt hS hc he hec hE hV hEC hVC hce hpk hpk5 hsu hsu16 hg hgC
  · exact r_met4 hlt hS hc he hec hE hV hEC hVC hce hpk hpk5 hsu hsu16 hg hgC
  · exact r_met5 hlt hS hc he hec hE hV hEC hVC hce hpk hpk5 hsu hsu16 hg hgC
theorem r_met {lA : Launch} (hlt : lA.stackTraces = false) {D : jv_D} {base : Nat} {x : Nat} {q : Nat → Nat} {h : jv_H} {c e ec kd pk : Nat} {su : Option Nat} {ty n s rc : Int32} {tsC ts : List mT} (hS : rf_S x q h) (hc : c < 13) (he : e < 8) (hec : ec < 8) (hE : rf_E q h e ts) (hV : rf_V q h e ts) (hEC : rf_E q h ec tsC) (hVC : rf_V q h ec tsC) (hce : jv_I h (q 22) c = nI ec) (hpk : jv_I h (q 23) c = nI pk) (hpk5 : pk < 5) (hsu : jv_I h (q 24) c = jv_oN su) (hsu16 : ∀ u, su = some u → u < 16) (hkd : kd < 6) (hg : ∀ k, k < ts.length → m_hg ts 11 k) (hgC : ∀ k, k < tsC.length → m_hg tsC 11 k) : jv_Met lA D base yX8_met (.code yX8_met cX8_met 14 (some .int)) 15 0 0 [.ref x, .int (nI c), .int (nI e), .int (nI kd), .int ty, .int n, .int s, .int rc] h (fun v h' => v = some (.int (nI (m_met (decide (e = ec)) tsC ts pk su kd ty n s rc).1)) ∧ rs x q h h' ∧ jv_I h' x 32 = jv_oN (m_met (decide (e = ec)) tsC ts pk su kd ty n s rc).2 ∧ jv_I h' x 0 = jv_I h x 0) jv_no := (r_metS hlt hS hc he hec hE hV hEC hVC hce hpk hpk5 hsu hsu16 hkd hg hgC).mono (fun v h' z => ⟨z.1, z.2.1, z.2.2.1, z.2.2.2.1⟩) (fun _ _ z => z)
/-! THE REFERENCE HOLDS the mathematical state M -/
def mu_k (u : mU) : Nat := u.1
def mu_t (u : mU) : Int32 := u.2.1
def mu_n (u : mU) : Int32 := u.2.2.1
def mu_s (u : mU) : Int32 := u.2.2.2.1
def mu_r (u : mU) : Int32 := u.2.2.2.2
def mc_e (c : mC) : Nat := c.1
def mc_p (c : mC) : Nat := c.2.1
def mc_u (c : mC) : Option Nat := c.2.2.1
def mc_l (c : mC) : List mU := c.2.2.2
def mc_ok (M : mA) (c : mC) : Prop := mc_e c < M.1.length ∧ ma_s M (mc_e c) = true ∧ mc_p c < 5 ∧ (∀ u, mc_u c = some u → u < 16) ∧ (mc_l c).length ≤ 20 ∧ ∀ u ∈ mc_l c, mu_k u < 6
def rf_U (q : Nat → Nat) (h : jv_H) (i : Nat) (u : mU) : Prop := jv_I h (q 26) i = nI (mu_k u) ∧ jv_I h (q 27) i = mu_t u ∧ jv_I h (q 28) i = mu_n u ∧ jv_I h (q 29) i = mu_s u ∧ jv_I h (q 30) i = mu_r u
def rf_C (q : Nat → Nat) (h : jv_H) (c : Nat) (C : mC) : Prop := jv_I h (q 22) c = nI (mc_e C) ∧ jv_I h (q 23) c = nI (mc_p C) ∧ jv_I h (q 24) c = jv_oN (mc_u C) ∧ jv_I h (q 25) c = nI (mc_l C).length ∧ ∀ j u, (mc_l C)[j]? = some u → rf_U q h (20 * c + j) u
/-- a sealed edition: its ways up end, its names are one each -/
def m_sok (ts : List mT) : Prop := ∀ k, k < ts.length → m_hg ts 11 k
def rf_R (x : Nat) (q : Nat → Nat) (h : jv_H) (M : mA) : Prop := rf_S x q h ∧ (M.1.length ≤ 8 ∧ jv_I h x 1 = nI M.1.length) ∧ (M.2.length ≤ 12 ∧ jv_I h x 21 = nI M.2.length) ∧ (∀ e, e < 8 → jv_I h (q 2) e = jv_bI (ma_s M e) ∧ rf_E q h e (ma_t M e)) ∧ (∀ e, e < 8 → ma_s M e = true → rf_V q h e (ma_t M e) ∧ m_sok (ma_t M e)) ∧ ∀ c C, M.2[c]? = some C → rf_C q h c C ∧ mc_ok M C
theorem rs.C {x : Nat} {q : Nat → Nat} {h0 h : jv_H} (a : rs x q h0 h) (hS : rf_S x q h0) {c : Nat} {C : mC} (hc : c < 12) (r : rf_C q h0 c C) : rf_C q h c C := by
  obtain ⟨r1, r2, r3, r4, r5⟩ := r
  refine ⟨(a.I hS 22 (by decide) rfl (by decide) c (Or.inl (by omega))).trans r1, (a.I hS 23 (by decide) rfl (by decide) c (Or.inl (by omega))).trans r2, (a.I hS 24 (by decide) rfl (by decide) c (Or.inl (by omega))).trans r3, (a.I hS 25 (by decide) rfl (by decide) c (Or.inr (by decide))).trans r4, fun j u e => ?_⟩
  obtain ⟨s1, s2, s3, s4, s5⟩ := r5 j u e
  exact ⟨(a.I hS 26 (by decide) rfl (by decide) _ (Or.inr (by decide))).trans s1, (a.I hS 27 (by decide) rfl (by decide) _ (Or.inr (by decide))).trans s2, (a.I hS 28 (by decide) rfl (by decide) _ (Or.inr (by decide))).trans s3, (a.I hS 29 (by decide) rfl (by decide) _ (Or.inr (by decide))).trans s4, (a.I hS 30 (by decide) rfl (by decide) _ (Or.inr (by decide))).trans s5⟩
theorem rs.x {x : Nat} {q : Nat → Nat} {h0 h : jv_H} (a : rs x q h0 h) (hS : rf_S x q h0) {j : Nat} (hj : j ≠ 0 ∧ j ≠ 32 ∧ j ≠ 33) : jv_I h x j = jv_I h0 x j := by
  have hx : ∀ k, k < 42 → rf_arr k = true → x ≠ q k := fun k hk hr e => rf_x hS hk hr e.symm
  refine a.2.2.2 x j ?_
  rintro (⟨-, e | e | e⟩ | e | e | e | e | e | e | e | e | e | ⟨e | e | e, -⟩)
  · exact hj.1 e
  · exact hj.2.1 e
  · exact hj.2.2 e
  all_goals first
    | exact hx 31 (by decide) rfl e
    | exact hx 34 (by decide) rfl e
    | exact hx 35 (by decide) rfl e
    | exact hx 36 (by decide) rfl e
    | exact hx 37 (by decide) rfl e
    | exact hx 38 (by decide) rfl e
    | exact hx 39 (by decide) rfl e
    | exact hx 40 (by decide) rfl e
    | exact hx 41 (by decide) rfl e
    | exact hx 22 (by decide) rfl e
    | exact hx 23 (by decide) rfl e
    | exact hx 24 (by decide) rfl e
theorem rs.R {x : Nat} {q : Nat → Nat} {h0 h : jv_H} (a : rs x q h0 h) {M : mA} (r : rf_R x q h0 M) : rf_R x q h M := by
  obtain ⟨hS, ⟨h1, h2⟩, ⟨h3, h4⟩, h5, h6, h7⟩ := r
  refine ⟨a.S hS, ⟨h1, (a.x hS (by decide)).trans h2⟩, ⟨h3, (a.x hS (by decide)).trans h4⟩, fun e he => ⟨(a.I hS 2 (by decide) rfl (by decide) e (Or.inr (by decide))).trans (h5 e he).1, a.E hS (h5 e he).2⟩, fun e he hs => ⟨a.V hS (h6 e he hs).1, (h6 e he hs).2⟩, fun c C hC => ⟨a.C hS ?_ (h7 c C hC).1, (h7 c C hC).2⟩⟩
  have := jv_ltGet hC
  omega
