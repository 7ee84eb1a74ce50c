/-! THE PROBE tells what the reference tells -/
theorem hr_7 (ts : List mT) (Us : Nat → List Nat) (p : Nat) (su : Option Nat) (kd : Nat) (ty rc : Int32) (ko ho : Option Nat) : c_hr ts Us p su kd ty rc ko ho < 7 := by
  unfold c_hr
  repeat' first | decide | split
theorem hn_7 (ts : List mT) (Us : Nat → List Nat) (kd : Nat) (ty rc : Int32) (ko rn : Option Nat) : c_hn ts Us kd ty rc ko rn < 7 := by
  unfold c_hn
  repeat' first | decide | split
/-- a use is well with an edition, as far as this edition alone tells -/
def w_l (X : List mT) (p kd : Nat) (ty r : Int32) (ko : Option Nat) : Prop := c_hr X (m_Us X) p none kd ty r ko (c_ho X (m_Us X) kd ty ko) = 0 ∧ (m_rv kd = true → c_hn X (m_Us X) kd ty r ko (c_rn X (m_Us X) (c_ho X (m_Us X) kd ty ko) ko r) = 0)
theorem me_t {A : List mT} {p kd : Nat} {ty r cv : Int32} {ko : Option Nat} : c_me true A (m_Us A) p none kd ty r ko cv (c_ow A (m_Us A) kd ty r ko) = 0 ↔ w_l A p kd ty r ko := by
  unfold c_me w_l
  rw [if_neg (fun q => by cases q.2)]
  by_cases h1 : c_hr A (m_Us A) p none kd ty r ko (c_ho A (m_Us A) kd ty ko) = 0
  · cases hrv : m_rv kd with
    | false =>
      rw [if_pos (Or.inr rfl)]
      exact ⟨fun q => ⟨q, fun q => by cases q⟩, fun q => q.1⟩
    | true =>
      rw [if_neg (fun q => q.elim (fun q => q h1) (fun q => by cases q))]
      have e : c_ow A (m_Us A) kd ty r ko = c_nm A (c_rn A (m_Us A) (c_ho A (m_Us A) kd ty ko) ko r) := by unfold c_ow; rw [if_pos hrv]
      rw [if_neg (fun q => q.2 e.symm)]
      exact ⟨fun q => ⟨h1, fun _ => q⟩, fun q => q.2 rfl⟩
  · rw [if_pos (Or.inl h1)]
    exact ⟨fun q => absurd q h1, fun q => absurd q.1 h1⟩
theorem me_b {B : List mT} {own : Bool} {p kd : Nat} {ty r cv ow : Int32} {ko : Option Nat} : (¬ c_me own B (m_Us B) p none kd ty r ko cv ow = 0 ∧ ¬ c_me own B (m_Us B) p none kd ty r ko cv ow = 8 ∧ ¬ c_me own B (m_Us B) p none kd ty r ko cv ow = 9) ↔ (¬ (¬ cv = -1 ∧ own = false) ∧ ¬ w_l B p kd ty r ko) := by
  have b1 := hr_7 B (m_Us B) p none kd ty r ko (c_ho B (m_Us B) kd ty ko)
  have b2 := hn_7 B (m_Us B) kd ty r ko (c_rn B (m_Us B) (c_ho B (m_Us B) kd ty ko) ko r)
  unfold c_me w_l
  by_cases hc : ¬ cv = -1 ∧ own = false
  · rw [if_pos hc]
    constructor
    · intro q
      by_cases e : c_ci B (c_ho B (m_Us B) kd ty ko) ko = cv
      · rw [if_pos e] at q; exact absurd rfl q.1
      · rw [if_neg e] at q; exact absurd rfl q.2.2
    · intro q; exact absurd hc q.1
  · rw [if_neg hc]
    by_cases h1 : c_hr B (m_Us B) p none kd ty r ko (c_ho B (m_Us B) kd ty ko) = 0
    · cases hrv : m_rv kd with
      | false =>
        rw [if_pos (Or.inr rfl)]
        exact ⟨fun q => absurd h1 q.1, fun q => absurd ⟨h1, fun q => by cases q⟩ q.2⟩
      | true =>
        rw [if_neg (fun q => q.elim (fun q => q h1) (fun q => by cases q))]
        by_cases h2 : c_hn B (m_Us B) kd ty r ko (c_rn B (m_Us B) (c_ho B (m_Us B) kd ty ko) ko r) = 0
        · refine ⟨fun q => ?_, fun q => absurd ⟨h1, fun _ => h2⟩ q.2⟩
          by_cases e : c_nm B (c_rn B (m_Us B) (c_ho B (m_Us B) kd ty ko) ko r) = ow
          · rw [if_neg (fun q => q.2 e)] at q; exact absurd h2 q.1
          · rw [if_pos ⟨h2, e⟩] at q; exact absurd rfl q.2.1
        · rw [if_neg (fun q => h2 q.1)]
          exact ⟨fun q => ⟨hc, fun y => h2 (y.2 rfl)⟩, fun q => ⟨h2, by omega, by omega⟩⟩
    · rw [if_pos (Or.inl h1)]
      exact ⟨fun q => ⟨hc, fun y => h1 y.1⟩, fun q => ⟨h1, by omega, by omega⟩⟩
theorem brk_iff {A B : List mT} (hA : m_so A) (hB : m_so B) {own : Bool} (ho : own = true → A = B) {p kd : Nat} (hk : kd < 6) {ty n s r : Int32} : m_brk own A B p kd ty n s r = true ↔ w_l A p kd ty r (ky n s) ∧ ¬ (¬ c_cv A (m_Us A) kd ty (ky n s) = -1 ∧ own = false) ∧ ¬ w_l B p kd ty r (ky n s) := by
  unfold m_brk
  rw [(met_me hA hA (own := true) (fun _ => rfl) (pk := p) (su := none) (fun u q => by cases q) hk).1, (met_me hA hB ho (pk := p) (su := none) (fun u q => by cases q) hk).1]
  rw [Bool.and_eq_true, Bool.and_eq_true, Bool.and_eq_true, Bool.not_eq_true', Bool.not_eq_true', Bool.not_eq_true', decide_eq_true_iff, decide_eq_false_iff_not, decide_eq_false_iff_not, decide_eq_false_iff_not, me_t, and_assoc, and_assoc, me_b]
/-- packages -/
theorem t1_iff {A B : List mT} {UA UB : Nat → List Nat} {kd : Nat} {ty rc : Int32} {ko ho hb : Option Nat} : ∀ n, ((c_t1 A B UA UB kd ty rc ko ho hb n).1 = true ↔ ∃ p, p < n ∧ c_hr A UA p none kd ty rc ko ho = 0) ∧ ((c_t1 A B UA UB kd ty rc ko ho hb n).2 = true ↔ ∀ p, p < n → c_hr A UA p none kd ty rc ko ho = 0 → c_hr B UB p none kd ty rc ko hb = 0)
  | 0 => ⟨⟨fun q => (by cases q), fun ⟨p, q, _⟩ => by omega⟩, ⟨fun _ p q => by omega, fun _ => rfl⟩⟩
  | n + 1 => by
    obtain ⟨i1, i2⟩ := t1_iff (A := A) (B := B) (UA := UA) (UB := UB) (kd := kd) (ty := ty) (rc := rc) (ko := ko) (ho := ho) (hb := hb) n
    rw [c_t1]
    by_cases h : c_hr A UA n none kd ty rc ko ho = 0
    · rw [if_pos h]
      refine ⟨⟨fun _ => ⟨n, by omega, h⟩, fun _ => rfl⟩, ?_⟩
      dsimp only
      rw [Bool.and_eq_true, i2, decide_eq_true_iff]
      constructor
      · rintro ⟨q1, q2⟩ p hp hq
        by_cases e : p = n
        · subst e; exact q2
        · exact q1 p (by omega) hq
      · intro q
        exact ⟨fun p hp => q p (by omega), q n (by omega) h⟩
    · rw [if_neg h, i1, i2]
      constructor
      · constructor
        · rintro ⟨p, q1, q2⟩; exact ⟨p, by omega, q2⟩
        · rintro ⟨p, q1, q2⟩
          by_cases e : p = n
          · subst e; exact absurd q2 h
          · exact ⟨p, by omega, q2⟩
      · constructor
        · intro q p hp hq
          by_cases e : p = n
          · subst e; exact absurd hq h
          · exact q p (by omega) hq
        · intro q p hp hq
          exact q p (by omega) hq
/-- the receiver matters for coming there only by its being there -/
theorem hr_rc {X : List mT} {Us : Nat → List Nat} {p kd : Nat} {ty r r' : Int32} {ko ho : Option Nat} (h : m_rv kd = false ∨ ((m_at X r).isNone = false ∧ (m_at X r').isNone = false)) : c_hr X Us p none kd ty r ko ho = c_hr X Us p none kd ty r' ko ho := by
  unfold c_hr
  have e : (m_rv kd && (m_at X r).isNone) = (m_rv kd && (m_at X r').isNone) := by
    rcases h with h | ⟨h1, h2⟩
    · rw [h]; rfl
    · rw [h1, h2]
  rw [e]
theorem hr_at1 {X : List mT} {Us : Nat → List Nat} {p kd : Nat} {ty r : Int32} {ko ho : Option Nat} (h : c_hr X Us p none kd ty r ko ho = 0) : (m_at X ty).isNone = false ∧ (m_rv kd = true → (m_at X r).isNone = false) := by
  cases ha : m_at X ty with
  | none => rw [hr_1a ha] at h; cases h
  | some k =>
    obtain ⟨t, ht, -⟩ := m_at_get ha
    refine ⟨rfl, fun hrv => ?_⟩
    rw [hr_at ha ht] at h
    cases hr : (m_at X r).isNone with
    | false => rfl
    | true => rw [if_pos (show (m_rv kd && (m_at X r).isNone) = true by rw [hrv, hr]; rfl)] at h; cases h
theorem hn_at1 {X : List mT} {Us : Nat → List Nat} {kd : Nat} {ty r : Int32} {ko rn : Option Nat} (h : c_hn X Us kd ty r ko rn = 0) : (m_at X r).isNone = false := by
  cases ha : m_at X r with
  | some k => rfl
  | none => unfold c_hn at h; rw [ha] at h; cases h
theorem at_self {A : List mT} (hA : m_so A) {i : Nat} {t : mT} (ht : A[i]? = some t) : (m_at A (nI (mt_n t))).isNone = false := by rw [at_nm hA.1 ht]; rfl
section TF
variable {A B : List mT} {t0 : mT} {kd : Nat} {ko : Option Nat}
/-- a trial without receiver -/
theorem tf_n (hrv : m_rv kd = false) {rc r : Int32} : c_tf A B (m_Us A) (m_Us B) kd (nI (mt_n t0)) rc ko (c_ho A (m_Us A) kd (nI (mt_n t0)) ko) (c_ho B (m_Us B) kd (nI (mt_n t0)) ko) = false ↔ ∃ p, p < 5 ∧ w_l A p kd (nI (mt_n t0)) r ko ∧ ¬ w_l B p kd (nI (mt_n t0)) r ko := by
  unfold c_tf
  rw [if_neg (fun q => by rw [hrv] at q; cases q.2)]
  have i2 := (t1_iff (A := A) (B := B) (UA := m_Us A) (UB := m_Us B) (kd := kd) (ty := nI (mt_n t0)) (rc := rc) (ko := ko) (ho := c_ho A (m_Us A) kd (nI (mt_n t0)) ko) (hb := c_ho B (m_Us B) kd (nI (mt_n t0)) ko) 5).2
  rw [← Bool.not_eq_true, i2]
  have eA : ∀ p, c_hr A (m_Us A) p none kd (nI (mt_n t0)) rc ko (c_ho A (m_Us A) kd (nI (mt_n t0)) ko) = c_hr A (m_Us A) p none kd (nI (mt_n t0)) r ko (c_ho A (m_Us A) kd (nI (mt_n t0)) ko) := fun p => hr_rc (Or.inl hrv)
  have eB : ∀ p, c_hr B (m_Us B) p none kd (nI (mt_n t0)) rc ko (c_ho B (m_Us B) kd (nI (mt_n t0)) ko) = c_hr B (m_Us B) p none kd (nI (mt_n t0)) r ko (c_ho B (m_Us B) kd (nI (mt_n t0)) ko) := fun p => hr_rc (Or.inl hrv)
  constructor
  · intro q
    obtain ⟨p, q⟩ := Classical.not_forall.mp q
    obtain ⟨hp, q⟩ := Classical.not_imp.mp q
    obtain ⟨q1, q2⟩ := Classical.not_imp.mp q
    refine ⟨p, hp, ⟨(eA p).symm.trans q1, fun y => by rw [hrv] at y; cases y⟩, fun y => q2 ((eB p).trans y.1)⟩
  · rintro ⟨p, hp, q1, q2⟩ y
    exact q2 ⟨(eB p).symm.trans (y p hp ((eA p).trans q1.1)), fun y => by rw [hrv] at y; cases y⟩
/-- a trial with receivers -/
theorem tf_r (hA : m_so A) {i : Nat} (ht0 : A[i]? = some t0) (hrv : m_rv kd = true) : c_tf A B (m_Us A) (m_Us B) kd (nI (mt_n t0)) (nI (mt_n t0)) ko (c_ho A (m_Us A) kd (nI (mt_n t0)) ko) (c_ho B (m_Us B) kd (nI (mt_n t0)) ko) = false ↔ ∃ (p j : Nat) (y : mT), p < 5 ∧ A[j]? = some y ∧ w_l A p kd (nI (mt_n t0)) (nI (mt_n y)) ko ∧ ¬ w_l B p kd (nI (mt_n t0)) (nI (mt_n y)) ko := by
  obtain ⟨i1, i2⟩ := t1_iff (A := A) (B := B) (UA := m_Us A) (UB := m_Us B) (kd := kd) (ty := nI (mt_n t0)) (rc := nI (mt_n t0)) (ko := ko) (ho := c_ho A (m_Us A) kd (nI (mt_n t0)) ko) (hb := c_ho B (m_Us B) kd (nI (mt_n t0)) ko) 5
  have eA : ∀ {p : Nat} {j : Nat} {y : mT}, A[j]? = some y → c_hr A (m_Us A) p none kd (nI (mt_n t0)) (nI (mt_n t0)) ko (c_ho A (m_Us A) kd (nI (mt_n t0)) ko) = c_hr A (m_Us A) p none kd (nI (mt_n t0)) (nI (mt_n y)) ko (c_ho A (m_Us A) kd (nI (mt_n t0)) ko) := fun hy => hr_rc (Or.inr ⟨at_self hA ht0, at_self hA hy⟩)
  have eB : ∀ {p : Nat} {y : mT}, (m_at B (nI (mt_n y))).isNone = false → (m_at B (nI (mt_n t0))).isNone = false → c_hr B (m_Us B) p none kd (nI (mt_n t0)) (nI (mt_n t0)) ko (c_ho B (m_Us B) kd (nI (mt_n t0)) ko) = c_hr B (m_Us B) p none kd (nI (mt_n t0)) (nI (mt_n y)) ko (c_ho B (m_Us B) kd (nI (mt_n t0)) ko) := fun h1 h2 => hr_rc (Or.inr ⟨h2, h1⟩)
  unfold c_tf
  by_cases hany : (c_t1 A B (m_Us A) (m_Us B) kd (nI (mt_n t0)) (nI (mt_n t0)) ko (c_ho A (m_Us A) kd (nI (mt_n t0)) ko) (c_ho B (m_Us B) kd (nI (mt_n t0)) ko) 5).1 = true
  · rw [if_pos ⟨hany, hrv⟩, Bool.not_eq_false', any_i]
    constructor
    · rintro ⟨j, hj, q⟩
      obtain ⟨y, hy⟩ := jv_getLt hj
      unfold c_tb at q
      rw [hy] at q
      have q : (decide (c_hn A (m_Us A) kd (nI (mt_n t0)) (nI (mt_n y)) ko (c_rn A (m_Us A) (c_ho A (m_Us A) kd (nI (mt_n t0)) ko) ko (nI (mt_n y))) = 0) && !((c_t1 A B (m_Us A) (m_Us B) kd (nI (mt_n t0)) (nI (mt_n t0)) ko (c_ho A (m_Us A) kd (nI (mt_n t0)) ko) (c_ho B (m_Us B) kd (nI (mt_n t0)) ko) 5).2 && decide (c_hn B (m_Us B) kd (nI (mt_n t0)) (nI (mt_n y)) ko (c_rn B (m_Us B) (c_ho B (m_Us B) kd (nI (mt_n t0)) ko) ko (nI (mt_n y))) = 0))) = true := q
      rw [Bool.and_eq_true, decide_eq_true_iff, Bool.not_eq_true'] at q
      obtain ⟨q1, q2⟩ := q
      by_cases hal : (c_t1 A B (m_Us A) (m_Us B) kd (nI (mt_n t0)) (nI (mt_n t0)) ko (c_ho A (m_Us A) kd (nI (mt_n t0)) ko) (c_ho B (m_Us B) kd (nI (mt_n t0)) ko) 5).2 = true
      · rw [hal, Bool.true_and, decide_eq_false_iff_not] at q2
        obtain ⟨p, hp, q3⟩ := i1.mp hany
        exact ⟨p, j, y, hp, hy, ⟨(eA hy).symm.trans q3, fun _ => q1⟩, fun z => q2 (z.2 hrv)⟩
      · rw [i2] at hal
        obtain ⟨p, q⟩ := Classical.not_forall.mp hal
        obtain ⟨hp, q⟩ := Classical.not_imp.mp q
        obtain ⟨q3, q4⟩ := Classical.not_imp.mp q
        refine ⟨p, j, y, hp, hy, ⟨(eA hy).symm.trans q3, fun _ => q1⟩, fun z => q4 ?_⟩
        have h1 := hr_at1 z.1
        exact (eB (h1.2 hrv) h1.1).trans z.1
    · rintro ⟨p, j, y, hp, hy, ⟨q1, q2⟩, q3⟩
      refine ⟨j, jv_ltGet hy, ?_⟩
      unfold c_tb
      rw [hy]
      show (decide (c_hn A (m_Us A) kd (nI (mt_n t0)) (nI (mt_n y)) ko (c_rn A (m_Us A) (c_ho A (m_Us A) kd (nI (mt_n t0)) ko) ko (nI (mt_n y))) = 0) && !((c_t1 A B (m_Us A) (m_Us B) kd (nI (mt_n t0)) (nI (mt_n t0)) ko (c_ho A (m_Us A) kd (nI (mt_n t0)) ko) (c_ho B (m_Us B) kd (nI (mt_n t0)) ko) 5).2 && decide (c_hn B (m_Us B) kd (nI (mt_n t0)) (nI (mt_n y)) ko (c_rn B (m_Us B) (c_ho B (m_Us B) kd (nI (mt_n t0)) ko) ko (nI (mt_n y))) = 0))) = true
      rw [decide_eq_true (q2 hrv), Bool.true_and, Bool.not_eq_true', ← Bool.not_eq_true, Bool.and_eq_true, decide_eq_true_iff, i2]
      rintro ⟨z1, z2⟩
      have z3 := z1 p hp ((eA hy).trans q1)
      exact q3 ⟨(eB (hn_at1 z2) (hr_at1 z3).1).symm.trans z3, fun _ => z2⟩
  · rw [if_neg (fun q => hany q.1)]
    constructor
    · intro q
      rw [← Bool.not_eq_true, i2] at q
      refine absurd (fun p hp hq => ?_) q
      exact absurd (i1.mpr ⟨p, hp, hq⟩) hany
    · rintro ⟨p, j, y, hp, hy, ⟨q1, q2⟩, q3⟩
      exact absurd (i1.mpr ⟨p, hp, (eA hy).trans q1⟩) hany
end TF
/-! the keys that are tried -/
theorem kf_bit {ts : List mT} {w : Bool} {g K : Nat} {U : List Nat} : ∀ n, (c_kf ts w g U n).testBit K = true ↔ g.testBit K = true ∨ ∃ (j v : Nat) (t : mT), j < n ∧ U[j]? = some v ∧ m_ty1 ts v = some t ∧ (m_ks w (mt_m t)).testBit K = true
  | 0 => ⟨fun q => Or.inl q, fun q => by
      rcases q with q | ⟨j, v, t, q, -⟩
      · exact q
      · omega⟩
  | n + 1 => by
    rw [c_kf, Nat.testBit_or, Bool.or_eq_true, kf_bit n]
    constructor
    · rintro ((q | ⟨j, v, t, q1, q2⟩) | q)
      · exact Or.inl q
      · exact Or.inr ⟨j, v, t, by omega, q2⟩
      · cases hu : U[n]? with
        | none => rw [hu] at q; simp at q
        | some v =>
          cases ht : m_ty1 ts v with
          | none => rw [hu, Option.bind_some, ht] at q; simp at q
          | some t =>
            rw [hu, Option.bind_some, ht] at q
            exact Or.inr ⟨n, v, t, by omega, hu, ht, q⟩
    · rintro (q | ⟨j, v, t, q1, q2, q3, q4⟩)
      · exact Or.inl (Or.inl q)
      · by_cases e : j = n
        · subst e
          refine Or.inr ?_
          rw [q2, Option.bind_some, q3]
          exact q4
        · exact Or.inl (Or.inr ⟨j, v, t, by omega, q2, q3, q4⟩)
theorem nw_up {ts : List mT} (hs : m_so ts) {ko : Option Nat} : ∀ {n k j : Nat} {t tj : mT}, ts[k]? = some t → ts[j]? = some tj → c_nw ts ko n (some k) = some j → mt_n tj = mt_n t ∨ m_abv ts (mt_n tj) (mt_n t) = true
  | 0, k, j, t, tj, _, _, h => by cases h
  | n + 1, k, j, t, tj, ht, hj, h => by
    rw [c_nw, ht] at h
    dsimp only at h
    split at h
    · cases h
      cases ht.symm.trans hj
      exact Or.inl rfl
    · cases hu : m_at ts (jv_oN (mt_u t)) with
      | none => rw [hu] at h; cases n <;> cases h
      | some k2 =>
        rw [hu] at h
        obtain ⟨t2, h2, h3⟩ := m_at_get hu
        have hup := vs_up hs.1 ht (v := jv_oN (mt_u t)) (t' := t2) (List.mem_append.mpr (Or.inr (List.mem_singleton.mpr rfl))) (by unfold m_gt; rw [hu]; exact h2)
        rcases nw_up hs h2 hj h with q | q
        · exact Or.inr (by rw [q]; exact m_abv_u hup)
        · exact Or.inr (m_abv_t hs.1.1 (m_abv_u hup) q)
theorem cd_up {ts : List mT} (hs : m_so ts) {ko : Option Nat} {i x : Nat} {t0 : mT} (ht0 : ts[i]? = some t0) (h : (c_cd ts (m_Us ts) i ko).testBit x = true) : m_abv ts x (mt_n t0) = true := by
  unfold c_cd at h
  rw [nd_bit, Bool.and_eq_true] at h
  obtain ⟨a, v, j, t, h1, h2, h3, h4, h5, h6⟩ := (cm_bit _).1.mp h.1
  have hv := (Us_iff hs.1 ht0).mp (List.mem_of_getElem? h2)
  obtain ⟨t', e1, e2⟩ := m_at_get h3
  cases h4.symm.trans e1
  have b1 := hs.n16 t (List.mem_of_getElem? h4)
  have b2 := (m_rch_lt hs.1.1 hv).1
  rw [← h6, (nI_eq (by omega) (by omega)).mp e2]
  exact hv
theorem fd_up {ts : List mT} (hs : m_so ts) {ko : Option Nat} {w : Bool} {i j : Nat} {t0 tj : mT} (ht0 : ts[i]? = some t0) (hj : ts[j]? = some tj) (h : c_fd ts (m_Us ts) i w ko = some j) : mt_n tj = mt_n t0 ∨ m_abv ts (mt_n tj) (mt_n t0) = true := by
  unfold c_fd at h
  split at h
  · cases h
  · split at h
    · cases h1 : c_nw ts ko 10 (some i) with
      | some k => rw [h1] at h; cases h; exact nw_up hs ht0 hj h1
      | none =>
        rw [h1] at h
        dsimp only at h
        cases h2 : m_only (c_op ts (c_cd ts (m_Us ts) i ko) ko) ts.length with
        | some k =>
          rw [h2] at h; cases h
          obtain ⟨t, e1, e2⟩ := only_get h2
          cases e1.symm.trans hj
          unfold c_op at e2
          rw [hj] at e2
          have e2 : ((c_cd ts (m_Us ts) i ko).testBit (mt_n tj) && _) = true := e2
          rw [Bool.and_eq_true] at e2
          exact Or.inr (cd_up hs ht0 e2.1)
        | none =>
          rw [h2] at h
          dsimp only at h
          obtain ⟨t, e1, e2⟩ := fo_get h
          cases e1.symm.trans hj
          exact Or.inr (cd_up hs ht0 e2)
    · unfold c_hf at h
      split at h
      · cases h
        cases ht0.symm.trans hj
        exact Or.inl rfl
      · obtain ⟨v, hv, e⟩ := List.exists_of_findSome?_eq_some h
        unfold c_hl at e
        cases hm : m_at ts (nI v) with
        | none => rw [hm] at e; cases e
        | some k =>
          rw [hm] at e
          dsimp only at e
          split at e
          · cases e
            obtain ⟨t', e1, e2⟩ := m_at_get hm
            cases e1.symm.trans hj
            have hv := (Us_iff hs.1 ht0).mp hv
            have b1 := hs.n16 tj (List.mem_of_getElem? hj)
            have b2 := (m_rch_lt hs.1.1 hv).1
            refine Or.inr ?_
            rw [(nI_eq (by omega) (by omega)).mp e2]
            exact hv
          · cases e
theorem fd_bit {ts : List mT} (hs : m_so ts) {key : Nat} (hk : key < 64) {w : Bool} {i j m : Nat} {t0 tj : mT} (ht0 : ts[i]? = some t0) (hj : ts[j]? = some tj) (h : c_fd ts (m_Us ts) i w (some key) = some j) (ho : m_oc tj w (some key) = some m) : (c_kf ts w (m_ks w (mt_m t0)) (m_Us ts i) (m_Us ts i).length).testBit key = true := by
  have hb : (m_ks w (mt_m tj)).testBit key = true := by
    have := has_oc (hs.ok hj) (hs.uk hj) (w := w) (ko := some key) (fun K q => by cases q; exact hk)
    rw [ho] at this
    exact this
  rw [kf_bit]
  rcases fd_up hs ht0 hj h with q | q
  · have := hs.1.2.1 j i tj t0 hj ht0 q
    subst this
    cases ht0.symm.trans hj
    exact Or.inl hb
  · obtain ⟨a, ha⟩ := List.getElem?_of_mem ((Us_iff hs.1 ht0).mpr q)
    exact Or.inr ⟨a, mt_n tj, tj, jv_ltGet ha, ha, ty1_s (at_nm hs.1 hj) hj, hb⟩
theorem ho_0 {X : List mT} {Us : Nat → List Nat} {kd : Nat} {ty : Int32} : c_ho X Us kd ty none = none := by
  unfold c_ho
  cases m_at X ty with
  | none => rfl
  | some k =>
    rw [Option.bind_some]
    unfold c_fd
    rw [if_pos (show (none : Option Nat).isNone = true from rfl)]
theorem hr_5 {X : List mT} {Us : Nat → List Nat} {p : Nat} {ty r r' : Int32} {ko ko' ho ho' : Option Nat} : c_hr X Us p none 5 ty r ko ho = c_hr X Us p none 5 ty r' ko' ho' := by
  cases ha : m_at X ty with
  | none => rw [hr_1a ha, hr_1a ha]
  | some k =>
    obtain ⟨t, ht, -⟩ := m_at_get ha
    rw [hr_at ha ht, hr_at ha ht]
    rfl
theorem wl_5 {X : List mT} {p : Nat} {ty r r' : Int32} {ko ko' : Option Nat} : w_l X p 5 ty r ko ↔ w_l X p 5 ty r' ko' := by
  unfold w_l
  rw [hr_5 (r' := r') (ko' := ko') (ho' := c_ho X (m_Us X) 5 ty ko')]
  exact ⟨fun q => ⟨q.1, fun y => by cases y⟩, fun q => ⟨q.1, fun y => by cases y⟩⟩
theorem hr0_get {X : List mT} {Us : Nat → List Nat} {p kd i : Nat} {ty r : Int32} {ko ho : Option Nat} {t0 : mT} (h : c_hr X Us p none kd ty r ko ho = 0) (h5 : ¬ kd = 5) (ha : m_at X ty = some i) (ht0 : X[i]? = some t0) : ∃ (kh : Nat) (th : mT) (m : mM), ho = some kh ∧ X[kh]? = some th ∧ m_om th (m_mt kd) ko = some m ∧ mm_t m = m_ws kd ∧ (m_rv kd = true → mt_i t0 = decide (kd = 4)) := by
  rw [hr_at ha ht0] at h
  split at h
  · cases h
  · split at h
    · cases h
    · split at h
      · cases h
      · rename_i n6
        cases hh : ho.bind (fun k => X[k]?) with
        | none => rw [hh] at h; cases h
        | some th =>
          rw [hh] at h
          dsimp only at h
          obtain ⟨kh, e1, e2⟩ := Option.bind_eq_some_iff.mp hh
          cases hm : m_om th (m_mt kd) ko with
          | none => rw [hm] at h; cases h
          | some m =>
            rw [hm] at h
            dsimp only at h
            split at h
            · split at h
              · rename_i e3
                refine ⟨kh, th, m, e1, e2, hm, e3, fun hrv => ?_⟩
                rw [hrv, Bool.true_and, Bool.not_eq_true', Bool.not_eq_false, decide_eq_true_iff] at n6
                exact n6
              · cases h
            · cases h
theorem om_get {t : mT} {w : Bool} {ko : Option Nat} {m : mM} (h : m_om t w ko = some m) : ∃ j, m_oc t w ko = some j ∧ (mt_m t)[j]? = some m ∧ mm_w m = w ∧ some (4 * mm_n m + mm_s m) = ko := by
  unfold m_om at h
  obtain ⟨j, h1, h2⟩ := Option.bind_eq_some_iff.mp h
  obtain ⟨m', e1, e2, e3⟩ := oc_some h1
  cases h2.symm.trans e1
  exact ⟨j, h1, h2, e2, e3⟩
theorem okf_eq {t0 : mT} {m : mM} {kd : Nat} (h5 : kd < 5) (hw : mm_w m = m_mt kd) (ht : mm_t m = m_ws kd) (hi : m_rv kd = true → mt_i t0 = decide (kd = 4)) : m_okf t0 m = kd := by
  unfold m_okf
  rw [hw, ht]
  rcases (by omega : kd = 0 ∨ kd = 1 ∨ kd = 2 ∨ kd = 3 ∨ kd = 4) with e | e | e | e | e <;> subst e
  · rfl
  · rfl
  · rw [hi rfl]; rfl
  · rfl
  · rw [hi rfl]; rfl
theorem okf_mt (t0 : mT) (m : mM) : m_mt (m_okf t0 m) = mm_w m ∧ m_okf t0 m < 5 := by
  unfold m_okf
  cases mm_w m <;> cases mm_t m <;> cases mt_i t0 <;> exact ⟨rfl, by decide⟩
def m_kc (t : mT) : Prop := ∀ m ∈ mt_m t, mm_c m = true → mm_w m = false ∧ mm_t m = true
/-- what is copied, where nothing constant is found -/
theorem cv_m1 {A : List mT} {kd i kh : Nat} {ty : Int32} {ko : Option Nat} {th : mT} {m : mM} (hh : c_ho A (m_Us A) kd ty ko = some kh) (hth : A[kh]? = some th) (hm : m_om th (m_mt kd) ko = some m) (hc : mm_c m = false) : c_cv A (m_Us A) kd ty ko = -1 := by
  unfold c_cv
  by_cases h1 : kd = 1
  · subst h1
    rw [if_pos rfl, hh]
    unfold c_ci c_ob
    rw [Option.bind_some, hth, Option.bind_some]
    have hm : m_om th false ko = some m := hm
    rw [hm]
    dsimp only
    rw [hc]; rfl
  · rw [if_neg h1]
theorem cv_no {A : List mT} (hA : m_so A) {ty : Int32} {kh : Nat} {ko : Option Nat} {th : mT} {m : mM} (hh : c_ho A (m_Us A) 1 ty ko = some kh) (hth : A[kh]? = some th) (hm : m_om th false ko = some m) (hc : mm_c m = true) : ¬ c_cv A (m_Us A) 1 ty ko = -1 := by
  unfold c_cv
  rw [if_pos rfl, hh]
  unfold c_ci c_ob
  rw [Option.bind_some, hth, Option.bind_some, hm]
  dsimp only
  rw [hc, if_pos rfl]
  obtain ⟨j, h1, h2, h3, -⟩ := om_get hm
  have om := (hA.ok hth).2.2.2.2.2.2 m (List.mem_of_getElem? h2)
  rcases om.2.2.2 with ⟨-, q⟩ | ⟨k, hk, q⟩
  · rw [h3] at q; cases q
  · rw [q]; exact jv_nI_m1 (by omega)
theorem fit_eq {A B : List mT} (hA : m_so A) (hB : m_so B) (hkc : ∀ t ∈ A, m_kc t) {own : Bool} (ho : own = true → A = B) : c_af A B (m_Us A) (m_Us B) = !m_any (m_bkp own A B) 5 := by
  unfold c_af
  congr 1
  rw [Bool.eq_iff_iff, any_i, any_i]
  constructor
  · rintro ⟨i, hi, q⟩
    obtain ⟨t0, ht0⟩ := jv_getLt hi
    unfold c_ab at q
    rw [ht0] at q
    have q : (!(c_nf A B (m_Us A) (m_Us B) t0 && c_mf A B (m_Us A) (m_Us B) i t0 false && c_mf A B (m_Us A) (m_Us B) i t0 true)) = true := q
    suffices hs : ∃ p, p < 5 ∧ m_bkt own A B p (nI (mt_n t0)) = true by
      obtain ⟨p, hp, hs⟩ := hs
      exact ⟨p, hp, any_i.mpr ⟨i, hi, by unfold m_bky; rw [ht0]; exact hs⟩⟩
    have mem : ∀ w, c_mf A B (m_Us A) (m_Us B) i t0 w = false → ∃ p, p < 5 ∧ m_bkt own A B p (nI (mt_n t0)) = true := fun w hw => by
      unfold c_mf at hw
      rw [Bool.not_eq_false', any_i] at hw
      obtain ⟨key, hkey, hw⟩ := hw
      unfold c_mb at hw
      rw [Bool.and_eq_true] at hw
      obtain ⟨-, hw⟩ := hw
      cases hf : c_fd A (m_Us A) i w (some key) with
      | none => rw [hf] at hw; cases hw
      | some kh =>
        rw [hf] at hw
        dsimp only at hw
        cases hth : A[kh]? with
        | none => rw [hth] at hw; cases hw
        | some th =>
          rw [hth, Option.bind_some] at hw
          cases hom : m_om th w (some key) with
          | none => rw [hom] at hw; cases hw
          | some m =>
            rw [hom] at hw
            dsimp only at hw
            rw [Bool.and_eq_true, Bool.not_eq_true', Bool.not_eq_true'] at hw
            obtain ⟨hc, htf⟩ := hw
            obtain ⟨j, g1, g2, g3, g4⟩ := om_get hom
            obtain ⟨o1, o2⟩ := okf_mt t0 m
            have hho : c_ho A (m_Us A) (m_okf t0 m) (nI (mt_n t0)) (some key) = some kh := by
              unfold c_ho
              rw [at_nm hA.1 ht0, Option.bind_some, o1, g3]
              exact hf
            have om := (hA.ok hth).2.2.2.2.2.2 m (List.mem_of_getElem? g2)
            have hky : ky (nI (mm_n m)) (nI (mm_s m)) = some key := (ky_nI om.1 om.2.1).trans g4
            have hcv := cv_m1 (i := i) hho hth (by rw [o1, g3]; exact hom) hc
            have hj6 : j < 6 := by have := jv_ltGet g2; have := (hA.ok hth).2.2.2.2.2.1; omega
            have hkh10 : kh < 10 := by have := jv_ltGet hth; have := hA.1.2.2.1; omega
            have fin : ∀ p, p < 5 → m_bka own A B p (m_okf t0 m) (nI (mt_n t0)) (nI (mm_n m)) (nI (mm_s m)) = true → ∃ p, p < 5 ∧ m_bkt own A B p (nI (mt_n t0)) = true := fun p hp hb => by
              refine ⟨p, hp, ?_⟩
              unfold m_bkt
              rw [Bool.or_eq_true]
              refine Or.inr (any_i.mpr ⟨6 * kh + j, by omega, ?_⟩)
              unfold m_bkm
              rw [show (6 * kh + j) / 6 = kh by omega, show (6 * kh + j) % 6 = j by omega, hth]
              show ((mt_m th)[j]?).any _ = true
              rw [g2]
              show m_any _ 5 = true
              refine any_i.mpr ⟨m_okf t0 m, o2, ?_⟩
              unfold m_bkk
              rw [hb, Bool.and_true]
              have : m_mt (m_okf t0 m) = !decide (m_okf t0 m < 2) := mt_lt o2
              rw [o1] at this
              rw [this, Bool.not_not]
              simp
            rw [← hho] at htf
            cases hrv : m_rv (m_okf t0 m) with
            | true =>
              obtain ⟨p, jj, y, hp, hy, w1, w2⟩ := (tf_r hA ht0 hrv).mp htf
              refine fin p hp ?_
              unfold m_bka
              rw [if_pos (rv_iff.mp hrv)]
              refine any_i.mpr ⟨jj, jv_ltGet hy, ?_⟩
              unfold m_bkr
              rw [hy]
              show m_brk own A B p (m_okf t0 m) (nI (mt_n t0)) (nI (mm_n m)) (nI (mm_s m)) (nI (mt_n y)) = true
              rw [brk_iff hA hB ho (by omega), hky]
              exact ⟨w1, fun z => z.1 hcv, w2⟩
            | false =>
              obtain ⟨p, hp, w1, w2⟩ := (tf_n hrv (r := -1)).mp htf
              refine fin p hp ?_
              unfold m_bka
              rw [if_neg (fun z => by rw [rv_iff.mpr z] at hrv; cases hrv), brk_iff hA hB ho (by omega), hky]
              exact ⟨w1, fun z => z.1 hcv, w2⟩
    cases h1 : c_nf A B (m_Us A) (m_Us B) t0 with
    | false =>
      unfold c_nf at h1
      have h1 : c_tf A B (m_Us A) (m_Us B) 5 (nI (mt_n t0)) (-1) none (c_ho A (m_Us A) 5 (nI (mt_n t0)) none) (c_ho B (m_Us B) 5 (nI (mt_n t0)) none) = false := by rw [ho_0, ho_0]; exact h1
      obtain ⟨p, hp, w1, w2⟩ := (tf_n rfl (r := -1)).mp h1
      refine ⟨p, hp, ?_⟩
      unfold m_bkt
      rw [Bool.or_eq_true]
      refine Or.inl ?_
      rw [brk_iff hA hB ho (by decide)]
      refine ⟨wl_5.mp w1, fun z => z.1 ?_, fun z => w2 (wl_5.mp z)⟩
      unfold c_cv
      rw [if_neg (by decide)]
    | true =>
      cases h2 : c_mf A B (m_Us A) (m_Us B) i t0 false with
      | false => exact mem false h2
      | true =>
        rw [h1, h2] at q
        refine mem true ?_
        simpa using q
  · rintro ⟨p, hp, q⟩
    unfold m_bkp at q
    obtain ⟨i, hi, q⟩ := any_i.mp q
    obtain ⟨t0, ht0⟩ := jv_getLt hi
    unfold m_bky at q
    rw [ht0] at q
    have q : m_bkt own A B p (nI (mt_n t0)) = true := q
    refine ⟨i, hi, ?_⟩
    unfold c_ab
    rw [ht0]
    show (!(c_nf A B (m_Us A) (m_Us B) t0 && c_mf A B (m_Us A) (m_Us B) i t0 false && c_mf A B (m_Us A) (m_Us B) i t0 true)) = true
    unfold m_bkt at q
    rw [Bool.or_eq_true] at q
    rcases q with q | q
    · obtain ⟨w1, -, w2⟩ := (brk_iff hA hB ho (by decide)).mp q
      have h1 : c_tf A B (m_Us A) (m_Us B) 5 (nI (mt_n t0)) (-1) none (c_ho A (m_Us A) 5 (nI (mt_n t0)) none) (c_ho B (m_Us B) 5 (nI (mt_n t0)) none) = false := (tf_n rfl (r := -1)).mpr ⟨p, hp, wl_5.mp w1, fun z => w2 (wl_5.mp z)⟩
      rw [ho_0, ho_0] at h1
      have h2 : c_nf A B (m_Us A) (m_Us B) t0 = false := h1
      rw [h2]; rfl
    · obtain ⟨k, hk, q⟩ := any_i.mp q
      unfold m_bkm at q
      cases hy : A[k / 6]? with
      | none => rw [hy] at q; cases q
      | some y =>
        rw [hy] at q
        have q : ((mt_m y)[k % 6]?).any (fun m => m_any (m_bkk own A B p (nI (mt_n t0)) m) 5) = true := q
        cases hm' : (mt_m y)[k % 6]? with
        | none => rw [hm'] at q; cases q
        | some m' =>
          rw [hm'] at q
          have q : m_any (m_bkk own A B p (nI (mt_n t0)) m') 5 = true := q
          obtain ⟨kd, h5, q⟩ := any_i.mp q
          unfold m_bkk at q
          rw [Bool.and_eq_true] at q
          obtain ⟨-, q⟩ := q
          have om' := (hA.ok hy).2.2.2.2.2.2 m' (List.mem_of_getElem? hm')
          have hky := ky_nI om'.1 om'.2.1
          have hk64 : 4 * mm_n m' + mm_s m' < 64 := by have := om'.1; have := om'.2.1; omega
          -- one break there
          have main : ∀ r, m_brk own A B p kd (nI (mt_n t0)) (nI (mm_n m')) (nI (mm_s m')) r = true → (c_tf A B (m_Us A) (m_Us B) kd (nI (mt_n t0)) (nI (mt_n t0)) (some (4 * mm_n m' + mm_s m')) (c_ho A (m_Us A) kd (nI (mt_n t0)) (some (4 * mm_n m' + mm_s m'))) (c_ho B (m_Us B) kd (nI (mt_n t0)) (some (4 * mm_n m' + mm_s m'))) = false) → c_mf A B (m_Us A) (m_Us B) i t0 (m_mt kd) = false := fun r hb htf => by
            obtain ⟨w1, w3, w2⟩ := (brk_iff hA hB ho (by omega)).mp hb
            rw [hky] at w1 w2 w3
            obtain ⟨kh, th, m, e1, e2, e3, e4, e5⟩ := hr0_get w1.1 (by omega) (at_nm hA.1 ht0) ht0
            obtain ⟨j, g1, g2, g3, g4⟩ := om_get e3
            have hokf := okf_eq h5 g3 e4 e5
            have hf : c_fd A (m_Us A) i (m_mt kd) (some (4 * mm_n m' + mm_s m')) = some kh := by
              have e1' := e1
              unfold c_ho at e1'
              rw [at_nm hA.1 ht0, Option.bind_some] at e1'
              exact e1'
            have hc : mm_c m = false := by
              cases hc : mm_c m with
              | false => rfl
              | true =>
                obtain ⟨c1, c2⟩ := hkc th (List.mem_of_getElem? e2) m (List.mem_of_getElem? g2) hc
                have hk1 : kd = 1 := by
                  rw [c1] at g3
                  rw [c2] at e4
                  rcases (by omega : kd = 0 ∨ kd = 1 ∨ kd = 2 ∨ kd = 3 ∨ kd = 4) with e | e | e | e | e <;> subst e
                  · cases e4
                  · rfl
                  · cases g3
                  · cases g3
                  · cases g3
                subst hk1
                cases hown : own with
                | false => exact absurd ⟨cv_no hA e1 e2 e3 hc, hown⟩ w3
                | true =>
                  have := ho hown
                  subst this
                  exact absurd w1 w2
            unfold c_mf
            rw [Bool.not_eq_false', any_i]
            refine ⟨4 * mm_n m' + mm_s m', hk64, ?_⟩
            unfold c_mb
            rw [fd_bit hA hk64 ht0 e2 hf g1, hf]
            dsimp only
            rw [e2, Option.bind_some, e3]
            dsimp only
            rw [hc, hokf, ← e1, htf]
            rfl
          have done : c_mf A B (m_Us A) (m_Us B) i t0 (m_mt kd) = false → (!(c_nf A B (m_Us A) (m_Us B) t0 && c_mf A B (m_Us A) (m_Us B) i t0 false && c_mf A B (m_Us A) (m_Us B) i t0 true)) = true := fun hf => by
            cases hmt : m_mt kd with
            | false => rw [hmt] at hf; rw [hf, Bool.and_false]; rfl
            | true => rw [hmt] at hf; rw [hf, Bool.and_false]; rfl
          refine done ?_
          unfold m_bka at q
          by_cases hrv : kd = 2 ∨ kd = 4
          · rw [if_pos hrv] at q
            obtain ⟨jj, hjj, q⟩ := any_i.mp q
            obtain ⟨yy, hyy⟩ := jv_getLt hjj
            unfold m_bkr at q
            rw [hyy] at q
            have q : m_brk own A B p kd (nI (mt_n t0)) (nI (mm_n m')) (nI (mm_s m')) (nI (mt_n yy)) = true := q
            refine main _ q ((tf_r hA ht0 (rv_iff.mpr hrv)).mpr ?_)
            obtain ⟨w1, -, w2⟩ := (brk_iff hA hB ho (by omega)).mp q
            rw [hky] at w1 w2
            exact ⟨p, jj, yy, hp, hyy, w1, w2⟩
          · rw [if_neg hrv] at q
            have hrv' : m_rv kd = false := by
              cases e : m_rv kd with
              | false => rfl
              | true => exact absurd (rv_iff.mp e) hrv
            refine main _ q ((tf_n hrv' (r := -1)).mpr ?_)
            obtain ⟨w1, -, w2⟩ := (brk_iff hA hB ho (by omega)).mp q
            rw [hky] at w1 w2
            exact ⟨p, hp, w1, w2⟩
