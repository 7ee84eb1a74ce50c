/-! WHAT IS ABOVE WHAT: ways of any length; the reference's table by closing -/
def m_uq (ts : List mT) : Prop := ∀ (i j : Nat) (t t' : mT), ts[i]? = some t → ts[j]? = some t' → mt_n t = mt_n t' → i = j
theorem m_up_of {ts : List mT} {i l u : Nat} {t : mT} (hu : m_uq ts) (ht : ts[i]? = some t) (hn : mt_n t = l) (h : u ∈ mt_f t ∨ mt_u t = some u) : u ∈ m_up ts l := by
  unfold m_up
  cases hf : ts.find? (fun t => mt_n t == l) with
  | none =>
    have h1 := List.find?_eq_none.mp hf t (List.mem_of_getElem? ht)
    exact absurd (by simpa using hn) h1
  | some t' =>
    obtain ⟨j, hj⟩ := List.getElem?_of_mem (List.mem_of_find?_eq_some hf)
    have h1 := List.find?_some hf
    have h2 : mt_n t' = l := by simpa using h1
    have h3 := hu i j t t' ht hj (hn.trans h2.symm)
    subst h3
    cases ht.symm.trans hj
    simp only [List.mem_append, Option.mem_toList]
    rcases h with h | h
    · exact Or.inl h
    · exact Or.inr h
theorem m_up_to {ts : List mT} {l u : Nat} (h : u ∈ m_up ts l) : ∃ (i : Nat) (t : mT), ts[i]? = some t ∧ mt_n t = l ∧ (u ∈ mt_f t ∨ mt_u t = some u) := by
  unfold m_up at h
  cases hf : ts.find? (fun t => mt_n t == l) with
  | none => rw [hf] at h; simp at h
  | some t =>
    rw [hf] at h
    obtain ⟨j, hj⟩ := List.getElem?_of_mem (List.mem_of_find?_eq_some hf)
    have h1 := List.find?_some hf
    refine ⟨j, t, hj, by simpa using h1, ?_⟩
    simp only [List.mem_append, Option.mem_toList] at h
    exact h
theorem m_rch_s {ts : List mT} {n l u : Nat} : m_rch ts (n + 1) l u = true ↔ ∃ v, v ∈ m_up ts l ∧ (v = u ∨ m_rch ts n v u = true) := by
  rw [m_rch, List.any_eq_true]
  constructor
  · rintro ⟨v, hv, h⟩
    exact ⟨v, hv, by simpa using h⟩
  · rintro ⟨v, hv, h⟩
    exact ⟨v, hv, by simpa using h⟩
theorem m_rch_1 {ts : List mT} : ∀ {n l u : Nat}, m_rch ts n l u = true → m_rch ts (n + 1) l u = true
  | 0, l, u, h => by cases h
  | n + 1, l, u, h => by
    obtain ⟨v, hv, h2⟩ := m_rch_s.mp h
    refine m_rch_s.mpr ⟨v, hv, ?_⟩
    rcases h2 with h2 | h2
    · exact Or.inl h2
    · exact Or.inr (m_rch_1 h2)
theorem m_rch_m {ts : List mT} {n l u : Nat} (m : Nat) (h : m_rch ts n l u = true) : m_rch ts (n + m) l u = true := by
  induction m with
  | zero => exact h
  | succ m ih => exact m_rch_1 ih
theorem m_rch_t {ts : List mT} {k v u : Nat} : ∀ {n l : Nat}, m_rch ts n l v = true → m_rch ts k v u = true → m_rch ts (n + k) l u = true
  | 0, l, h, _ => by cases h
  | n + 1, l, h, g => by
    obtain ⟨w, hw, h2⟩ := m_rch_s.mp h
    rw [show n + 1 + k = (n + k) + 1 by omega]
    refine m_rch_s.mpr ⟨w, hw, Or.inr ?_⟩
    rcases h2 with h2 | h2
    · subst h2
      have := m_rch_m n g
      rw [Nat.add_comm]
      exact this
    · exact m_rch_t h2 g
theorem fb_ct_lt {p q : Nat → Bool} {n k : Nat} (h : ∀ j, j < n → p j = true → q j = true) (hk : k < n) (h1 : p k = false) (h2 : q k = true) : fb_ct p n < fb_ct q n := by
  induction n with
  | zero => omega
  | succ n ih =>
    rw [fb_ct_succ, fb_ct_succ]
    by_cases hkn : k = n
    · subst hkn
      have := fb_ct_sub (p := p) (q := q) (n := k) (fun j hj => h j (by omega))
      rw [h1, h2]
      simp
      omega
    · have := ih (fun j hj => h j (by omega)) (by omega)
      by_cases hp : p n = true
      · rw [if_pos hp, if_pos (h n (by omega) hp)]; omega
      · rw [if_neg hp]; omega
/-- all names that the types speak of are below 16 -/
def m_b16 (ts : List mT) : Prop := ∀ t ∈ ts, mt_n t < 16 ∧ (∀ v ∈ mt_f t, v < 16) ∧ ∀ u, mt_u t = some u → u < 16
theorem m_up_lt {ts : List mT} (hb : m_b16 ts) {l u : Nat} (h : u ∈ m_up ts l) : u < 16 ∧ l < 16 := by
  obtain ⟨i, t, ht, hn, h2⟩ := m_up_to h
  have h3 := hb t (List.mem_of_getElem? ht)
  refine ⟨?_, hn ▸ h3.1⟩
  rcases h2 with h2 | h2
  · exact h3.2.1 u h2
  · exact h3.2.2 u h2
theorem m_rch_lt {ts : List mT} (hb : m_b16 ts) : ∀ {n l u : Nat}, m_rch ts n l u = true → u < 16 ∧ l < 16
  | 0, l, u, h => by cases h
  | n + 1, l, u, h => by
    obtain ⟨v, hv, h2⟩ := m_rch_s.mp h
    have h3 := m_up_lt hb hv
    rcases h2 with h2 | h2
    · subst h2; exact h3
    · exact ⟨(m_rch_lt hb h2).1, h3.2⟩
theorem m_rch_st {ts : List mT} {u n : Nat} (h : ∀ l, m_rch ts (n + 1) l u = m_rch ts n l u) : ∀ l, m_rch ts (n + 1 + 1) l u = m_rch ts (n + 1) l u := fun l => by
  rw [m_rch, m_rch]
  congr 1
  funext v
  rw [h v]
theorem m_rch_pg {ts : List mT} (hb : m_b16 ts) (u : Nat) : ∀ n, (∀ l, m_rch ts (n + 1) l u = m_rch ts n l u) ∨ n < fb_ct (fun l => m_rch ts (n + 1) l u) 16 := by
  intro n
  induction n with
  | zero =>
    by_cases hs : ∀ l, m_rch ts (0 + 1) l u = m_rch ts 0 l u
    · exact Or.inl hs
    · refine Or.inr ?_
      obtain ⟨l, hl⟩ := Classical.not_forall.mp hs
      have h1 : m_rch ts (0 + 1) l u = true := by
        cases h : m_rch ts (0 + 1) l u with
        | true => rfl
        | false => exact absurd h hl
      exact fb_ct_pos.mpr ⟨l, (m_rch_lt hb h1).2, h1⟩
  | succ n ih =>
    rcases ih with ih | ih
    · exact Or.inl (m_rch_st ih)
    · by_cases hs : ∀ l, m_rch ts (n + 1 + 1) l u = m_rch ts (n + 1) l u
      · exact Or.inl hs
      · refine Or.inr ?_
        obtain ⟨l, hl⟩ := Classical.not_forall.mp hs
        have h2 : m_rch ts (n + 1) l u = false := by
          cases h : m_rch ts (n + 1) l u with
          | false => rfl
          | true => exact absurd ((m_rch_1 h).trans h.symm) hl
        have h1 : m_rch ts (n + 1 + 1) l u = true := by
          cases h : m_rch ts (n + 1 + 1) l u with
          | true => rfl
          | false => exact absurd (h.trans h2.symm) hl
        have := fb_ct_lt (p := fun l => m_rch ts (n + 1) l u) (q := fun l => m_rch ts (n + 1 + 1) l u) (n := 16) (k := l) (fun j _ h => m_rch_1 h) (m_rch_lt hb h1).2 h2 h1
        omega
theorem m_rch_16 {ts : List mT} (hb : m_b16 ts) {n l u : Nat} (h : m_rch ts n l u = true) : m_abv ts u l = true := by
  have h16 : ∀ l, m_rch ts (16 + 1) l u = m_rch ts 16 l u := by
    rcases m_rch_pg hb u 16 with h1 | h1
    · exact h1
    · have := fb_ct_le (fun l => m_rch ts (16 + 1) l u) 16
      omega
  have hall : ∀ m l, m_rch ts (16 + m) l u = m_rch ts 16 l u := by
    intro m
    have hst : ∀ m l, m_rch ts (16 + m + 1) l u = m_rch ts (16 + m) l u := by
      intro m
      induction m with
      | zero => exact h16
      | succ m ih => exact m_rch_st ih
    induction m with
    | zero => exact fun l => rfl
    | succ m ih => exact fun l => (hst m l).trans (ih l)
  show m_rch ts 16 l u = true
  rw [← hall n l, Nat.add_comm]
  exact m_rch_m 16 h
theorem m_abv_t {ts : List mT} (hb : m_b16 ts) {u v l : Nat} (h1 : m_abv ts v l = true) (h2 : m_abv ts u v = true) : m_abv ts u l = true := m_rch_16 hb (m_rch_t (n := 16) (k := 16) h1 h2)
theorem m_abv_u {ts : List mT} {u l : Nat} (h : u ∈ m_up ts l) : m_abv ts u l = true := m_rch_m (n := 1) 15 (m_rch_s.mpr ⟨u, h, Or.inl rfl⟩)
/-! the table, closed step by step -/
def w_e (ts : List mT) : Nat → Nat → Nat → Bool
  | 0, _, _ => false
  | n + 1, u, l => w_e ts n u l || (ts[n]?).any (fun t => decide (mt_n t = l ∧ (u ∈ mt_f t ∨ mt_u t = some u)))
def w_w (A : Nat → Nat → Bool) : Nat → Nat → Nat → Bool
  | 0, u, l => A u l
  | k + 1, u, l => w_w A k u l || (w_w A k u k && w_w A k k l)
theorem w_e_iff {ts : List mT} {u l : Nat} : ∀ {n : Nat}, w_e ts n u l = true ↔ ∃ (i : Nat) (t : mT), i < n ∧ ts[i]? = some t ∧ mt_n t = l ∧ (u ∈ mt_f t ∨ mt_u t = some u)
  | 0 => ⟨fun h => (by cases h), fun ⟨i, t, h, _⟩ => by omega⟩
  | n + 1 => by
    rw [w_e, Bool.or_eq_true, w_e_iff]
    constructor
    · rintro (⟨i, t, h1, h2⟩ | h)
      · exact ⟨i, t, by omega, h2⟩
      · cases ht : ts[n]? with
        | none => rw [ht] at h; simp at h
        | some t =>
          rw [ht] at h
          exact ⟨n, t, by omega, ht, by simpa using h⟩
    · rintro ⟨i, t, h1, h2, h3⟩
      by_cases hi : i = n
      · subst hi
        refine Or.inr ?_
        rw [h2]
        simpa using h3
      · exact Or.inl ⟨i, t, by omega, h2, h3⟩
theorem w_w_1 {A : Nat → Nat → Bool} : ∀ {k u l : Nat}, A u l = true → w_w A k u l = true
  | 0, u, l, h => h
  | k + 1, u, l, h => by rw [w_w, w_w_1 h]; rfl
theorem w_w_c {A : Nat → Nat → Bool} {k u : Nat} : w_w A (k + 1) u k = w_w A k u k := by
  rw [w_w]
  cases w_w A k u k <;> simp
theorem w_w_r {A : Nat → Nat → Bool} {k l : Nat} : w_w A (k + 1) k l = w_w A k k l := by
  rw [w_w]
  cases w_w A k k l <;> simp
theorem w_w_t {A : Nat → Nat → Bool} : ∀ {k v u l : Nat}, v < k → w_w A k u v = true → w_w A k v l = true → w_w A k u l = true
  | 0, v, u, l, h, _, _ => by omega
  | k + 1, v, u, l, h, h1, h2 => by
    by_cases hv : v = k
    · subst hv
      rw [w_w_c] at h1
      rw [w_w_r] at h2
      rw [w_w, h1, h2]
      simp
    · have ih := fun {u l} => w_w_t (A := A) (k := k) (v := v) (u := u) (l := l) (by omega)
      rw [w_w, Bool.or_eq_true, Bool.and_eq_true] at h1 h2 ⊢
      rcases h1 with h1 | ⟨h1, h1'⟩ <;> rcases h2 with h2 | ⟨h2, h2'⟩
      · exact Or.inl (ih h1 h2)
      · exact Or.inr ⟨ih h1 h2, h2'⟩
      · exact Or.inr ⟨h1, ih h1' h2⟩
      · exact Or.inr ⟨h1, h2'⟩
theorem w_w_s {A : Nat → Nat → Bool} {P : Nat → Nat → Prop} (hA : ∀ u l, A u l = true → P u l) (ht : ∀ u v l, P u v → P v l → P u l) : ∀ {k u l : Nat}, w_w A k u l = true → P u l
  | 0, u, l, h => hA u l h
  | k + 1, u, l, h => by
    rw [w_w, Bool.or_eq_true, Bool.and_eq_true] at h
    rcases h with h | ⟨h1, h2⟩
    · exact w_w_s hA ht h
    · exact ht u k l (w_w_s hA ht h1) (w_w_s hA ht h2)
theorem w_abv {ts : List mT} (hb : m_b16 ts) (hu : m_uq ts) (u l : Nat) : w_w (w_e ts ts.length) 16 u l = m_abv ts u l := by
  have he : ∀ u l, w_e ts ts.length u l = true ↔ u ∈ m_up ts l := fun u l => by
    rw [w_e_iff]
    constructor
    · rintro ⟨i, t, -, h2, h3, h4⟩
      exact m_up_of hu h2 h3 h4
    · intro h
      obtain ⟨i, t, h2, h3, h4⟩ := m_up_to h
      exact ⟨i, t, jv_ltGet h2, h2, h3, h4⟩
  have h1 : w_w (w_e ts ts.length) 16 u l = true → m_abv ts u l = true := fun h =>
    w_w_s (P := fun u l => m_abv ts u l = true) (fun u l h => m_abv_u ((he u l).mp h)) (fun u v l h1 h2 => m_abv_t hb h2 h1) h
  have h2 : ∀ n l, m_rch ts n l u = true → w_w (w_e ts ts.length) 16 u l = true := by
    intro n
    induction n with
    | zero => intro l h; cases h
    | succ n ih =>
      intro l h
      obtain ⟨v, hv, h2⟩ := m_rch_s.mp h
      have h3 := w_w_1 (k := 16) ((he v l).mpr hv)
      rcases h2 with h2 | h2
      · subst h2; exact h3
      · exact w_w_t (m_up_lt hb hv).1 (ih v h2) h3
  cases h : m_abv ts u l with
  | true => exact h2 16 l h
  | false =>
    cases h4 : w_w (w_e ts ts.length) 16 u l with
    | false => rfl
    | true => rw [h1 h4] at h; cases h
/-! heights -/
def m_lu (ts : List mT) (t : mT) : Bool := match mt_u t with
  | none => true
  | some u => match m_at ts (nI u) with
    | none => false
    | some i => (ts[i]?).any (fun s => !mt_i s)
def m_lf (ts : List mT) (v : Nat) : Bool := match m_at ts (nI v) with
  | none => false
  | some i => (ts[i]?).any (fun s => mt_i s)
def m_lr (ts : List mT) (t : mT) : Bool := m_lu ts t && (mt_f t).all (m_lf ts)
theorem m_lu_u {ts : List mT} {t : mT} {u : Nat} (h : m_lu ts t = true) (hu : mt_u t = some u) : ∃ k', m_at ts (nI u) = some k' := by
  unfold m_lu at h
  rw [hu] at h
  dsimp only at h
  cases ha : m_at ts (nI u) with
  | none => rw [ha] at h; cases h
  | some k => exact ⟨k, rfl⟩
theorem m_lf_v {ts : List mT} {v : Nat} (h : m_lf ts v = true) : ∃ k', m_at ts (nI v) = some k' := by
  unfold m_lf at h
  cases ha : m_at ts (nI v) with
  | none => rw [ha] at h; cases h
  | some k => exact ⟨k, rfl⟩
def m_ht (ts : List mT) (k : Nat) : Nat := fb_ct (fun j => (ts[j]?).any (fun s => (ts[k]?).any (fun t => m_abv ts (mt_n s) (mt_n t)))) ts.length
theorem m_hg_of {ts : List mT} (hb : m_b16 ts) (hu : m_uq ts) (hl : ∀ t ∈ ts, m_lr ts t = true) (hc : ∀ t ∈ ts, m_abv ts (mt_n t) (mt_n t) = false) : ∀ d k, k < ts.length → m_ht ts k < d → m_hg ts d k := by
  have step : ∀ k t v k', ts[k]? = some t → v ∈ m_up ts (mt_n t) → v < 16 → m_at ts (nI v) = some k' → k' < ts.length ∧ m_ht ts k' < m_ht ts k := by
    intro k t v k' ht hv h16 ha
    obtain ⟨t', ht', hn', hk'⟩ := m_at_some ha
    have h16' := (hb t' (List.mem_of_getElem? ht')).1
    have hn : mt_n t' = v := (nI_eq (by omega) (by omega)).mp hn'
    refine ⟨hk', ?_⟩
    unfold m_ht
    refine fb_ct_lt (k := k') ?_ hk' ?_ ?_
    · intro j hj h
      rw [ht'] at h
      rw [ht]
      obtain ⟨s, hs⟩ := jv_getLt (l := ts) hj
      rw [hs] at h ⊢
      have h : m_abv ts (mt_n s) (mt_n t') = true := h
      show m_abv ts (mt_n s) (mt_n t) = true
      exact m_abv_t hb (m_abv_u hv) (hn ▸ h)
    · rw [ht']
      exact hc t' (List.mem_of_getElem? ht')
    · rw [ht', ht]
      show m_abv ts (mt_n t') (mt_n t) = true
      rw [hn]
      exact m_abv_u hv
  intro d
  induction d with
  | zero => intro k _ h; omega
  | succ d ih =>
    intro k hk hd t ht
    have htm := List.mem_of_getElem? ht
    have hlt := hl t htm
    unfold m_lr at hlt
    rw [Bool.and_eq_true] at hlt
    have hbt := hb t htm
    refine ⟨fun v hv => ?_, fun u hu' => ?_⟩
    · obtain ⟨k', hk'⟩ := m_lf_v (List.all_eq_true.mp hlt.2 v hv)
      have h1 := step k t v k' ht (m_up_of hu ht rfl (Or.inl hv)) (hbt.2.1 v hv) hk'
      exact ⟨k', hk', ih k' h1.1 (by omega)⟩
    · obtain ⟨k', hk'⟩ := m_lu_u hlt.1 hu'
      have h1 := step k t u k' ht (m_up_of hu ht rfl (Or.inr hu')) (hbt.2.2 u hu') hk'
      exact ⟨k', hk', ih k' h1.1 (by omega)⟩
theorem m_sok_of {ts : List mT} (hb : m_b16 ts) (hu : m_uq ts) (h10 : ts.length ≤ 10) (hl : ∀ t ∈ ts, m_lr ts t = true) (hc : ∀ t ∈ ts, m_abv ts (mt_n t) (mt_n t) = false) : m_sok ts := fun k hk => m_hg_of hb hu hl hc 11 k hk (by
  have := fb_ct_le (fun j => (ts[j]?).any (fun s => (ts[k]?).any (fun t => m_abv ts (mt_n s) (mt_n t)))) ts.length
  unfold m_ht
  omega)
