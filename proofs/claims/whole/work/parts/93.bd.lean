/-! at most 230 are told -/
theorem ty1_ok {l : List mT} {t : Nat} (hl : ∀ t ∈ l, mt_ok t) : ∀ z, m_ty1 l t = some z → mt_ok z := fun z hz => by
  unfold m_ty1 at hz
  cases h : m_at l (nI t) with
  | none => rw [h] at hz; cases hz
  | some i => rw [h] at hz; exact hl z (List.mem_of_getElem? hz)
theorem dt_15 {A B : List mT} {s : mS} {t : Nat} (hA : ∀ t ∈ A, mt_ok t) (hB : ∀ t ∈ B, mt_ok t) : (m_dt A B s t).length ≤ 15 * (if (m_ty1 A t).isSome then 1 else 0) + 8 * (if (m_ty1 B t).isSome then 1 else 0) := by
  have h23 := dt_23 (s := s) (t := t) hA hB
  have oA := ty1_ok (t := t) hA
  unfold m_dt at h23 ⊢
  cases hx : m_ty1 A t with
  | none =>
    cases hy : m_ty1 B t with
    | none => simp [m_dH]
    | some y => simp [m_dH]
  | some x =>
    rw [hx] at oA h23
    cases hy : m_ty1 B t with
    | none =>
      have h1 := dMs_le (s := s) (t := t) (x := some x) (y := none) (K := 128)
      have h2 := km_le0 oA (n := 128) (Nat.le_refl _)
      have h3 := fb_ct_zero (p := fun k => (m_km none k).isSome) (n := 128) |>.mpr (fun k _ => rfl)
      rw [List.length_append]
      simp only [m_dH, Option.isSome_some, Option.isSome_none, if_true, List.length_singleton]
      simp only [Bool.false_eq_true, if_false]
      omega
    | some y =>
      rw [hy] at h23
      simp only [Option.isSome_some, if_true] at h23 ⊢
      omega
theorem df_ct {A B : List mT} {s : mS} (hA : ∀ t ∈ A, mt_ok t) (hB : ∀ t ∈ B, mt_ok t) : ∀ n, (m_df A B s n).length ≤ 15 * fb_ct (fun t => (m_ty1 A t).isSome) n + 8 * fb_ct (fun t => (m_ty1 B t).isSome) n
  | 0 => Nat.zero_le _
  | n + 1 => by
    have h1 := df_ct (s := s) hA hB n
    have h2 := dt_15 (s := s) (t := n) hA hB
    rw [m_df, List.length_append, fb_ct_succ, fb_ct_succ]
    omega
theorem ty1_ct {A : List mT} (hA : ∀ t ∈ A, mt_ok t) : fb_ct (fun t => (m_ty1 A t).isSome) 16 ≤ A.length := by
  have h1 : fb_ct (fun t => (m_ty1 A t).isSome) 16 = fb_ct (fun k => ((if k < 16 then m_at A (nI k) else none)).isSome) 16 := fb_ct_cong (fun k hk => by
    rw [if_pos hk]
    cases h : m_at A (nI k) with
    | none => rw [ty1_n h]; rfl
    | some i =>
      obtain ⟨t, ht, -⟩ := m_at_get h
      rw [ty1_s h ht]; rfl)
  rw [h1]
  refine fb_inj (m := A.length) (fun k => if k < 16 then m_at A (nI k) else none) ?_ ?_ 16
  · intro k i h
    have h : (if k < 16 then m_at A (nI k) else none) = some i := h
    by_cases hk : k < 16
    · rw [if_pos hk] at h
      obtain ⟨t, ht, -⟩ := m_at_get h
      exact jv_ltGet ht
    · rw [if_neg hk] at h; cases h
  · intro k k' i h h'
    have h : (if k < 16 then m_at A (nI k) else none) = some i := h
    have h' : (if k' < 16 then m_at A (nI k') else none) = some i := h'
    by_cases hk : k < 16
    · by_cases hk' : k' < 16
      · rw [if_pos hk] at h
        rw [if_pos hk'] at h'
        obtain ⟨t, ht, e⟩ := m_at_get h
        obtain ⟨t', ht', e'⟩ := m_at_get h'
        cases ht.symm.trans ht'
        exact (nI_eq (by omega) (by omega)).mp (e.symm.trans e')
      · rw [if_neg hk'] at h'; cases h'
    · rw [if_neg hk] at h; cases h
theorem df_230 {A B : List mT} {s : mS} (hA : ∀ t ∈ A, mt_ok t) (hB : ∀ t ∈ B, mt_ok t) (lA : A.length ≤ 10) (lB : B.length ≤ 10) : (m_df A B s 16).length ≤ 230 := by
  have h1 := df_ct (s := s) hA hB 16
  have h2 := ty1_ct hA
  have h3 := ty1_ct hB
  omega
theorem df_mono {A B : List mT} {s : mS} {k : Nat} : ∀ {n : Nat}, (m_df A B s k).length ≤ (m_df A B s (k + n)).length
  | 0 => Nat.le_refl _
  | n + 1 => by
    rw [show k + (n + 1) = (k + n) + 1 from rfl, m_df, List.length_append]
    exact Nat.le_trans df_mono (Nat.le_add_right _ _)
