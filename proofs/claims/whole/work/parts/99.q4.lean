/-! the changing calls: what each gives -/
section OPS
variable {z : Nat → Nat → Nat} {tO : Nat → Nat} {h h1 : jv_H} {M : mA}
theorem pC_o {o o' : Nat × Int32 × mA} (e : o = o') {v : Option Value} (q : pC z tO h o' v h1) : pC z tO h o v h1 := by rw [e]; exact q
theorem pX_o {o o' : Nat × Int32 × mA} {L : List String} (e : o = o') {c : String} (q : pX z tO h L o' c h1) : pX z tO h L o c h1 := by rw [e]; exact q
theorem op_1 {e : Int32} {f : Nat → Nat × Int32 × mA} (h : m_ix1 M.1.length e = none) : m_op M e f = (1, 0, M) := by unfold m_op; rw [h]
theorem op_2 {e : Int32} {f : Nat → Nat × Int32 × mA} {k : Nat} (h : m_ix1 M.1.length e = some k) (hs : ma_s M k = true) : m_op M e f = (2, 0, M) := by unfold m_op; rw [h]; dsimp only; rw [hs]; rfl
theorem op_0 {e : Int32} {f : Nat → Nat × Int32 × mA} {k : Nat} (h : m_ix1 M.1.length e = some k) (hs : ma_s M k = false) : m_op M e f = f k := by unfold m_op; rw [h]; dsimp only; rw [hs]; rfl
theorem opT_n {e n : Int32} {zz : Nat × Int32 × mA} {f : Nat → Nat → mT → Nat × Int32 × mA} {k : Nat} (h : m_ix1 M.1.length e = some k) (hs : ma_s M k = false) (ha : m_at (ma_t M k) n = none) : m_opT M e n zz f = zz := by unfold m_opT; rw [op_0 h hs, ha]
theorem opT_0 {e n : Int32} {zz : Nat × Int32 × mA} {f : Nat → Nat → mT → Nat × Int32 × mA} {k i : Nat} {t : mT} (h : m_ix1 M.1.length e = some k) (hs : ma_s M k = false) (ha : m_at (ma_t M k) n = some i) (ht : (ma_t M k)[i]? = some t) : m_opT M e n zz f = f k i t := by unfold m_opT; rw [op_0 h hs, ha]; dsimp only; rw [ht]
theorem tyG_eq {n p s : Int32} {i : Bool} : m_tyG n i p s = (rr_lt n 16 && rr_lt p 4 && (decide (s = -1) || rr_lt s 16) && (!i || decide (s = -1))) := by
  unfold m_tyG
  rw [rr_in0 (by decide), rr_in0 (by decide), rr_in1 (by decide)]
theorem oI_s {s : Int32} (h : s = -1 ∨ rr_lt s 16 = true) : s = jv_oN (m_oI s) := by
  unfold m_oI
  by_cases q : s = -1
  · rw [if_pos q, q]; rfl
  · rw [if_neg q]
    obtain ⟨k, hk, e, -⟩ := rr_lt_t (by decide) (h.resolve_left q)
    rw [e]
    show nI k = nI (nI k).toNatClampNeg
    rw [nI_clamp (by omega)]
theorem tyN_ok {n p : Nat} {s : Int32} {i a pb : Bool} (hn : n < 16) (hp : p < 4) (hs : s = -1 ∨ rr_lt s 16 = true) (hi : i = true → s = -1) : mt_ok (m_tyN (nI n) i a (nI p) pb s) := by
  refine ⟨?_, ?_, fun u hu => ?_, Nat.zero_le _, fun v hv => (by cases hv), Nat.zero_le _, fun m hm => (by cases hm)⟩
  · show (nI n).toNatClampNeg < 16
    rw [nI_clamp (by omega)]; exact hn
  · show (nI p).toNatClampNeg < 4
    rw [nI_clamp (by omega)]; exact hp
  · have hu : m_oI s = some u := hu
    unfold m_oI at hu
    by_cases q : s = -1
    · rw [if_pos q] at hu; cases hu
    · rw [if_neg q] at hu
      obtain ⟨k, hk, e, -⟩ := rr_lt_t (by decide) (hs.resolve_left q)
      cases hu
      refine ⟨?_, ?_⟩
      · rw [e, nI_clamp (by omega)]; exact hk
      · show i = false
        cases hi' : i with
        | false => rfl
        | true => exact absurd (hi hi') q
theorem ty_ok {ts : List mT} {t : mT} (hu : m_uq ts) (hb : ∀ t ∈ ts, mt_n t < 16) (hn : mt_n t < 16) (hno : m_at ts (nI (mt_n t)) = none) (hall : ∀ t ∈ ts, m_uk t ∧ (mt_i t = true → mt_a t = true) ∧ m_kc t) (ht : m_uk t ∧ (mt_i t = true → mt_a t = true) ∧ m_kc t) : m_uq (ts ++ [t]) ∧ (∀ x ∈ ts ++ [t], m_uk x ∧ (mt_i x = true → mt_a x = true) ∧ m_kc x) ∧ (false = true → m_so (ts ++ [t])) := by
  have g : ∀ {a : Nat} {x : mT}, ts[a]? = some x → mt_n x ≠ mt_n t := fun {a x} hx q => by
    rw [← q, at_iff hu hb hx rfl] at hno
    cases hno
  refine ⟨fun a b x y hx hy q => ?_, fun x hx => ?_, fun q => by cases q⟩
  · have ha := jv_ltGet hx
    have hb' := jv_ltGet hy
    rw [List.length_append, List.length_singleton] at ha hb'
    by_cases h1 : a = ts.length <;> by_cases h2 : b = ts.length
    · omega
    · rw [List.getElem?_append_left (by omega)] at hy
      subst h1
      rw [List.getElem?_append_right (Nat.le_refl _), Nat.sub_self] at hx
      cases hx
      exact absurd q.symm (g hy)
    · rw [List.getElem?_append_left (by omega)] at hx
      subst h2
      rw [List.getElem?_append_right (Nat.le_refl _), Nat.sub_self] at hy
      cases hy
      exact absurd q (g hx)
    · rw [List.getElem?_append_left (by omega)] at hx hy
      exact hu a b x y hx hy q
  · rcases List.mem_append.mp hx with q | q
    · exact hall x q
    · rw [List.mem_singleton.mp q]; exact ht
theorem ty_new {n : Int32} {i a : Bool} {p : Int32} {pb : Bool} {s : Int32} : m_uk (m_tyN n i (i || a) p pb s) ∧ (mt_i (m_tyN n i (i || a) p pb s) = true → mt_a (m_tyN n i (i || a) p pb s) = true) ∧ m_kc (m_tyN n i (i || a) p pb s) := by
  refine ⟨fun a b x y hx => (by simp [m_tyN, mt_m] at hx), fun q => ?_, fun m hm => (by cases hm)⟩
  have q : i = true := q
  show (i || a) = true
  rw [q]; rfl
end OPS
section NEW
variable {z : Nat → Nat → Nat} {T : Nat → Nat} {N : Nat → Nat → Nat} {tO : Nat → Nat} {h h1 : jv_H} {M : mA}
theorem app_t {M : mA} {e : Nat} {ts : List mT} : ma_t (M.1 ++ [(false, ts)], M.2) e = if e = M.1.length then ts else ma_t M e := by
  unfold ma_t
  dsimp only
  by_cases q : e = M.1.length
  · subst q
    rw [if_pos rfl, List.getElem?_append_right (Nat.le_refl _), Nat.sub_self]
    rfl
  · rw [if_neg q]
    by_cases q2 : e < M.1.length
    · rw [List.getElem?_append_left q2]
    · rw [List.getElem?_eq_none_iff.mpr (by rw [List.length_append, List.length_singleton]; omega), List.getElem?_eq_none_iff.mpr (by omega)]
theorem app_s {M : mA} {e : Nat} {ts : List mT} : ma_s (M.1 ++ [(false, ts)], M.2) e = ma_s M e := by
  unfold ma_s
  dsimp only
  by_cases q : e = M.1.length
  · subst q
    rw [List.getElem?_append_right (Nat.le_refl _), Nat.sub_self, List.getElem?_eq_none_iff.mpr (Nat.le_refl _)]
    rfl
  · by_cases q2 : e < M.1.length
    · rw [List.getElem?_append_left q2]
    · rw [List.getElem?_eq_none_iff.mpr (by rw [List.length_append, List.length_singleton]; omega), List.getElem?_eq_none_iff.mpr (by omega)]
theorem ma_end {M : mA} : ma_t M M.1.length = [] ∧ ma_s M M.1.length = false := by
  unfold ma_t ma_s
  rw [List.getElem?_eq_none_iff.mpr (Nat.le_refl _)]
  exact ⟨rfl, rfl⟩
theorem s_lt {M : mA} {e : Nat} (h : ma_s M e = true) : e < M.1.length := by
  by_cases q : e < M.1.length
  · exact q
  · unfold ma_s at h
    rw [List.getElem?_eq_none_iff.mpr (by omega)] at h
    cases h
theorem app_ne {M : mA} {e : Nat} (h : ma_s M e = true) : e ≠ M.1.length := by have := s_lt h; omega
/-- one edition more, with the types ts: its rows hold them already -/
theorem cl_R.app (hR : cl_R z T N tO h M) (hl : M.1.length < 8) (f : cG (fun b => b = z 6 0 ∨ (tO b = z 0 M.1.length ∨ ∃ k, k < 10 ∧ tO b = T (10 * M.1.length + k))) h h1) (hP : ∀ j, jv_P h1 (z 6 0) j = jv_P h (z 6 0) j) (h3 : jv_I h1 (z 6 0) 3 = jv_I h (z 6 0) 3) (h1' : jv_I h1 (z 6 0) 1 = nI (M.1.length + 1)) {ts : List mT} (hE : cv_E z T N h1 M.1.length ts) (hs : jv_I h1 (z 0 M.1.length) 1 = jv_bI false) (eo : m_uq ts ∧ ∀ t ∈ ts, m_uk t ∧ (mt_i t = true → mt_a t = true) ∧ m_kc t) : cl_R z T N tO h1 (M.1 ++ [(false, ts)], M.2) ∧ sF cs h h1 := by
  have hE2 := fun e' (he' : e' < 8) => hR.E2 he'
  have hT5 := fun i (hi : i < 80) => hR.T5 hi
  have sA := hR.1.1.1
  have hO := hR.2.2.2.2.2.2.2.2.2.2
  have g : sF (fun s => es s || decide (s = .inl 7)) h h1 := f.sF (fun b s hs' q => by
    rcases q with q | q
    · rw [q, sA] at hs'; cases hs'; rfl
    · cases hes : es s with
      | true => rfl
      | false =>
        have ho := hO b s hs' hes
        rw [ho] at q
        rcases q with q | ⟨k, hk, q⟩
        · rw [q, hE2 _ hl] at hs'; cases hs'; cases hes
        · rw [q, hT5 (10 * M.1.length + k) (by omega)] at hs'; cases hs'; cases hes)
  obtain ⟨⟨a, nn, ee, eoo⟩, ⟨c, cc⟩, k, fi, p, d⟩ := hR
  have nk : ∀ s, ks s = true → (fun s => es s || decide (s = .inl 7)) s = false := fun s q => by
    unfold ks at q
    show (es s || decide (s = .inl 7)) = false
    unfold es
    split at q
    · simp at q
      subst q; rfl
    · simp at q
      rcases q with q | q <;> subst q <;> rfl
    · rfl
    · rfl
    · cases q
  have tE : ∀ {x : Nat}, x ≠ M.1.length → ma_t (M.1 ++ [(false, ts)], M.2) x = ma_t M x := fun q => by rw [app_t, if_neg q]
  have tU : ∀ {C : mC} (U : mU), mc_e C ≠ M.1.length → c_U (M.1 ++ [(false, ts)], M.2) C U = c_U M C U := fun U q => by unfold c_U; rw [tE q]
  have ll : (M.1 ++ [(false, ts)]).length = M.1.length + 1 := by rw [List.length_append, List.length_singleton]
  refine ⟨⟨⟨?_, ⟨by rw [ll]; exact h1', by rw [ll]; omega, h3.trans nn.2.2.1, nn.2.2.2⟩, fun x hx => ?_, fun x hx => ?_⟩, ⟨fun x hx => g.c rfl rfl (c x hx), fun x C hC => ?_⟩, ?_, ?_, g.clp rfl p, g.clD d⟩, g.mono (fun s q => ?_)⟩
  · obtain ⟨r1, r2, r3, r4, r5, r6, r7, r8, r9, r10, r11⟩ := a
    exact ⟨(g.sh _).trans r1, (hP 0).trans r2, (g.sh _).trans r3, (hP 2).trans r4, (g.sh _).trans r5, (hP 4).trans r6, (hP 5).trans r7, (hP 6).trans r8, (g.sh _).trans r9, fun e he => (g.p r3 rfl e).trans (r10 e he), fun c hc => (g.p r5 rfl c).trans (r11 c hc)⟩
  · unfold cl_E
    rw [app_s]
    by_cases q : x = M.1.length
    · rw [app_t, if_pos q]
      rw [q]
      exact ⟨hE, (ee _ hl).2.1, by rw [ma_end.2]; exact hs, fun y => by rw [ma_end.2] at y; cases y⟩
    · rw [tE q]
      obtain ⟨e1, e2, e3, e4⟩ := ee x hx
      have n0 : ∀ b, tO b = z 0 x → ¬ (b = z 6 0 ∨ (tO b = z 0 M.1.length ∨ ∃ k, k < 10 ∧ tO b = T (10 * M.1.length + k))) := fun b y y2 => by
        rcases y2 with y2 | y2
        · rw [y2, hO _ _ sA rfl] at y
          exact sh_no sA (hE2 x hx) (by intro q; cases q) y
        · rw [y] at y2
          rcases y2 with y2 | ⟨k, hk, y2⟩
          · exact q (d.1 x _ hx hl y2)
          · exact sh_no (hE2 x hx) (hT5 (10 * M.1.length + k) (by omega)) (by intro q; cases q) y2
      have nT : ∀ k, k < 10 → ∀ b, tO b = T (10 * x + k) → ¬ (b = z 6 0 ∨ (tO b = z 0 M.1.length ∨ ∃ k, k < 10 ∧ tO b = T (10 * M.1.length + k))) := fun k hk b y y2 => by
        rcases y2 with y2 | y2
        · rw [y2, hO _ _ sA rfl] at y
          exact sh_no sA (hT5 (10 * x + k) (by omega)) (by intro q; cases q) y
        · rw [y] at y2
          rcases y2 with y2 | ⟨k', hk', y2⟩
          · exact sh_no (hT5 (10 * x + k) (by omega)) (hE2 _ hl) (by intro q; cases q) y2
          · have := d.2.1 _ _ (by omega) (by omega) y2; omega
      exact ⟨f.E e2 n0 nT e1, e2, (f.i (n0 _ e2.1) 1).trans e3, fun y => f.Us e2 nT e1.2.2.2.1 (e4 y)⟩
  · unfold m_eo
    rw [app_s]
    by_cases q : x = M.1.length
    · rw [app_t, if_pos q, q, ma_end.2]
      exact ⟨eo.1, eo.2, fun y => by cases y⟩
    · rw [tE q]
      exact eoo x hx
  · have hC' : M.2[x]? = some C := hC
    obtain ⟨c1, c2⟩ := cc x C hC'
    have q := g.clC rfl rfl c1
    refine ⟨⟨q.1, q.2.1, fun j U hU => by rw [tU U (app_ne c2.2.1)]; exact q.2.2 j U hU⟩, by rw [ll]; have := c2.1; omega, by rw [app_s]; exact c2.2.1, c2.2.2⟩
  · have q := g.clK nk k
    refine ⟨q.1, ?_⟩
    rcases q.2 with y | ⟨x, y, y1, y2, y3, y4, y5, y6, y7⟩
    · exact Or.inl y
    · refine Or.inr ⟨x, y, by rw [ll]; omega, by rw [ll]; omega, by rw [app_s]; exact y3, by rw [app_s]; exact y4, y5, y6, ?_⟩
      unfold m_dfs
      rw [tE (app_ne y3), tE (app_ne y4)]
      exact y7
  · have q := g.clF rfl a fi
    intro x y hx hy
    rcases q x y hx hy with y1 | ⟨y1, y2, y3, y4, y5⟩
    · exact Or.inl y1
    · refine Or.inr ⟨by rw [ll]; omega, by rw [ll]; omega, by rw [app_s]; exact y3, by rw [app_s]; exact y4, ?_⟩
      rw [tE (app_ne y3), tE (app_ne y4)]
      exact y5
  · have q : (es s || decide (s = .inl 7)) = true := q
    rw [Bool.or_eq_true, decide_eq_true_iff] at q
    rcases q with q | q
    · exact es_cs s q
    · rw [q]; rfl
end NEW
