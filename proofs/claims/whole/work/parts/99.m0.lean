/-! SEALED EDITIONS: what the class's climbing gathers is what is above; a field is found as the reference finds it -/
theorem pw_len : ∀ {U L : List Nat}, U.Pairwise (fun a b => a ≠ b) → (∀ w ∈ U, w ∈ L) → U.length ≤ L.length
  | [], _, _, _ => Nat.zero_le _
  | u :: U, L, hp, hs => by
    have h1 := List.pairwise_cons.mp hp
    have hu := hs u (by simp)
    have h2 : ∀ w ∈ U, w ∈ L.erase u := fun w hw => (List.mem_erase_of_ne (fun e => h1.1 w hw e.symm)).mpr (hs w (by simp [hw]))
    have h3 := pw_len h1.2 h2
    rw [List.length_erase_of_mem hu] at h3
    have h4 : 0 < L.length := List.length_pos_of_mem hu
    simp only [List.length_cons]
    omega
theorem fs_cong {α β : Type} {f g : α → Option β} : ∀ {l : List α}, (∀ v ∈ l, f v = g v) → l.findSome? f = l.findSome? g
  | [], _ => rfl
  | a :: l, h => by
    rw [List.findSome?_cons, List.findSome?_cons, h a (by simp), fs_cong (l := l) (fun v hv => h v (by simp [hv]))]
theorem fs_map {α β γ : Type} {f : α → Option β} {g : β → γ} : ∀ {l : List α}, (l.findSome? f).map g = l.findSome? (fun a => (f a).map g)
  | [] => rfl
  | a :: l => by
    rw [List.findSome?_cons, List.findSome?_cons]
    cases f a with
    | none => exact fs_map
    | some b => rfl
theorem fs_none {α β : Type} {f : α → Option β} : ∀ {l : List α}, l.findSome? f = none → ∀ x ∈ l, f x = none
  | [], _, x, hx => by cases hx
  | a :: l, h, x, hx => by
    rw [List.findSome?_cons] at h
    cases ha : f a with
    | some b => rw [ha] at h; cases h
    | none =>
      rw [ha] at h
      rcases List.mem_cons.mp hx with e | hx
      · rw [e]; exact ha
      · exact fs_none h x hx
def m_gt (ts : List mT) (v : Int32) : Option mT := (m_at ts v).bind (fun k => ts[k]?)
def m_vs (t : mT) : List Int32 := (mt_f t).map nI ++ [jv_oN (mt_u t)]
def m_sx (ts : List mT) : Prop := m_b16 ts ∧ m_uq ts ∧ ts.length ≤ 10 ∧ ∀ t ∈ ts, m_lr ts t = true
theorem gt_some {ts : List mT} {v : Int32} {t : mT} (h : m_gt ts v = some t) : ∃ k, m_at ts v = some k ∧ ts[k]? = some t ∧ nI (mt_n t) = v := by
  obtain ⟨k, h1, h2⟩ := Option.bind_eq_some_iff.mp h
  obtain ⟨t', h3, h4⟩ := m_at_get h1
  cases h2.symm.trans h3
  exact ⟨k, h1, h2, h4⟩
theorem gt_at {ts : List mT} {v : Int32} {k : Nat} (h : m_at ts v = some k) : ∃ t, m_gt ts v = some t ∧ ts[k]? = some t := by
  obtain ⟨t, h3, h4⟩ := m_at_get h
  exact ⟨t, by unfold m_gt; rw [h]; exact h3, h3⟩
theorem at_nm {ts : List mT} (hs : m_sx ts) {k : Nat} {t : mT} (ht : ts[k]? = some t) : m_at ts (nI (mt_n t)) = some k := at_iff hs.2.1 (fun t h => (hs.1 t h).1) ht rfl
theorem gt_nm {ts : List mT} (hs : m_sx ts) {k : Nat} {t : mT} (ht : ts[k]? = some t) : m_gt ts (nI (mt_n t)) = some t := by unfold m_gt; rw [at_nm hs ht]; exact ht
theorem at_m1 {ts : List mT} (hb : ∀ t ∈ ts, mt_n t < 16) : m_at ts (-1) = none := by
  cases h : m_at ts (-1) with
  | none => rfl
  | some k =>
    obtain ⟨t, h1, h2⟩ := m_at_get h
    have := hb t (List.mem_of_getElem? h1)
    exact absurd h2 (jv_nI_m1 (by omega))
theorem gt_m1 {ts : List mT} (hs : m_sx ts) : m_gt ts (-1) = none := by unfold m_gt; rw [at_m1 (fun t h => (hs.1 t h).1)]; rfl
theorem vs_up {ts : List mT} (hs : m_sx ts) {k : Nat} {t t' : mT} {v : Int32} (ht : ts[k]? = some t) (hv : v ∈ m_vs t) (hg : m_gt ts v = some t') : mt_n t' ∈ m_up ts (mt_n t) := by
  have hbt := hs.1 t (List.mem_of_getElem? ht)
  obtain ⟨k', h1, h2, h3⟩ := gt_some hg
  have hn' := (hs.1 t' (List.mem_of_getElem? h2)).1
  unfold m_vs at hv
  rcases List.mem_append.mp hv with hv | hv
  · obtain ⟨x, hx, e⟩ := List.mem_map.mp hv
    have hx16 := hbt.2.1 x hx
    have e2 : mt_n t' = x := (nI_eq (by omega) (by omega)).mp (h3.trans e.symm)
    rw [e2]
    exact m_up_of hs.2.1 ht rfl (Or.inl hx)
  · have hv := List.mem_singleton.mp hv
    cases hu : mt_u t with
    | none =>
      rw [hu] at hv
      have hv : v = -1 := hv
      rw [hv, gt_m1 hs] at hg
      cases hg
    | some u =>
      rw [hu] at hv
      have hv : v = nI u := hv
      have hu16 := hbt.2.2 u hu
      have e2 : mt_n t' = u := (nI_eq (by omega) (by omega)).mp (h3.trans hv)
      rw [e2]
      exact m_up_of hs.2.1 ht rfl (Or.inr hu)
theorem up_vs {ts : List mT} (hs : m_sx ts) {k x : Nat} {t : mT} (ht : ts[k]? = some t) (hx : x ∈ m_up ts (mt_n t)) : nI x ∈ m_vs t ∧ ∃ (k' : Nat) (t' : mT), m_at ts (nI x) = some k' ∧ ts[k']? = some t' ∧ mt_n t' = x := by
  obtain ⟨i, t2, h1, h2, h3⟩ := m_up_to hx
  have hi := hs.2.1 i k t2 t h1 ht h2
  subst hi
  cases h1.symm.trans ht
  have hbt := hs.1 t (List.mem_of_getElem? ht)
  have hlt := hs.2.2.2 t (List.mem_of_getElem? ht)
  unfold m_lr at hlt
  rw [Bool.and_eq_true] at hlt
  have fin : ∀ k', m_at ts (nI x) = some k' → x < 16 → ∃ (k' : Nat) (t' : mT), m_at ts (nI x) = some k' ∧ ts[k']? = some t' ∧ mt_n t' = x := fun k' hk' hx16 => by
    obtain ⟨t', h4, h5⟩ := m_at_get hk'
    have hn' := (hs.1 t' (List.mem_of_getElem? h4)).1
    exact ⟨k', t', hk', h4, (nI_eq (by omega) (by omega)).mp h5⟩
  rcases h3 with h3 | h3
  · obtain ⟨k', hk'⟩ := m_lf_v (List.all_eq_true.mp hlt.2 x h3)
    exact ⟨List.mem_append.mpr (Or.inl (List.mem_map.mpr ⟨x, h3, rfl⟩)), fin k' hk' (hbt.2.1 x h3)⟩
  · obtain ⟨k', hk'⟩ := m_lu_u hlt.1 h3
    refine ⟨List.mem_append.mpr (Or.inr ?_), fin k' hk' (hbt.2.2 x h3)⟩
    rw [h3]
    exact List.mem_singleton.mpr rfl
theorem if_fold {step : List Nat → Int32 → List Nat} {fs U : List Nat} : ∀ i, c_if step fs U i = ((fs.take i).map nI).foldl step U
  | 0 => by rw [c_if]; simp
  | i + 1 => by
    rw [c_if, if_fold i]
    cases h : fs[i]? with
    | none =>
      dsimp only
      have hl : fs.length ≤ i := List.getElem?_eq_none_iff.mp h
      rw [List.take_of_length_le hl, List.take_of_length_le (by omega)]
    | some x =>
      dsimp only
      have hl := jv_ltGet h
      rw [List.take_succ_eq_append_getElem hl, List.map_append, List.foldl_append]
      have e : fs[i] = x := by rw [List.getElem?_eq_getElem hl] at h; exact Option.some.inj h
      rw [e]; rfl
theorem cl_fold {ts : List mT} {d : Nat} {U : List Nat} {t : mT} : c_cl ts d U t = (m_vs t).foldl (c_ct ts d) U := by
  unfold c_cl m_vs
  rw [if_fold, List.take_length, List.foldl_append]
  rfl
theorem ct_s {ts : List mT} {d : Nat} {U : List Nat} {v : Int32} : c_ct ts (d + 1) U v = (match m_gt ts v with
    | none => U
    | some t => if mt_n t ∈ U then U else c_cl ts d (m_au U (mt_n t)) t) := by
  rw [c_ct]; rfl
def u_iv (ts : List mT) (U : List Nat) : Prop := U.Pairwise (fun a b => a ≠ b) ∧ ∀ w ∈ U, ∃ (k : Nat) (t : mT), ts[k]? = some t ∧ mt_n t = w
theorem iv_len {ts : List mT} {U : List Nat} (r : u_iv ts U) : U.length ≤ ts.length := by
  have := pw_len (L := ts.map mt_n) r.1 (fun w hw => by
    obtain ⟨k, t, h1, h2⟩ := r.2 w hw
    exact List.mem_map.mpr ⟨t, List.mem_of_getElem? h1, h2⟩)
  rwa [List.length_map] at this
theorem iv_snoc {ts : List mT} {U : List Nat} {k : Nat} {t : mT} (r : u_iv ts U) (ht : ts[k]? = some t) (hn : mt_n t ∉ U) : u_iv ts (U ++ [mt_n t]) := by
  refine ⟨List.pairwise_append.mpr ⟨r.1, List.pairwise_singleton _ _, fun a ha b hb e => ?_⟩, fun w hw => ?_⟩
  · rw [List.mem_singleton.mp hb] at e
    rw [e] at ha
    exact hn ha
  · rcases List.mem_append.mp hw with hw | hw
    · exact r.2 w hw
    · exact ⟨k, t, ht, (List.mem_singleton.mp hw).symm⟩
def u_G (ts : List mT) (S : Nat → Prop) (U U' : List Nat) : Prop := (∃ X, U' = U ++ X) ∧ u_iv ts U' ∧ ∀ w ∈ U', w ∉ U → S w ∧ ∀ x ∈ m_up ts w, x ∈ U'
theorem u_G.rf {ts : List mT} {S : Nat → Prop} {U : List Nat} (r : u_iv ts U) : u_G ts S U U := ⟨⟨[], (List.append_nil U).symm⟩, r, fun _ h n => absurd h n⟩
theorem u_G.mem {ts : List mT} {S : Nat → Prop} {U U' : List Nat} (g : u_G ts S U U') {w : Nat} (h : w ∈ U) : w ∈ U' := by
  obtain ⟨X, e⟩ := g.1
  rw [e]
  exact List.mem_append.mpr (Or.inl h)
theorem u_G.len {ts : List mT} {S : Nat → Prop} {U U' : List Nat} (g : u_G ts S U U') : U.length ≤ U'.length := by
  obtain ⟨X, e⟩ := g.1
  rw [e, List.length_append]
  omega
theorem u_G.tr {ts : List mT} {S : Nat → Prop} {U U1 U2 : List Nat} (a : u_G ts S U U1) (b : u_G ts S U1 U2) : u_G ts S U U2 := by
  refine ⟨?_, b.2.1, fun w hw hn => ?_⟩
  · obtain ⟨X, e⟩ := a.1
    obtain ⟨Y, e2⟩ := b.1
    exact ⟨X ++ Y, by rw [e2, e, List.append_assoc]⟩
  · by_cases h1 : w ∈ U1
    · obtain ⟨q1, q2⟩ := a.2.2 w h1 hn
      exact ⟨q1, fun x hx => b.mem (q2 x hx)⟩
    · exact b.2.2 w hw h1
def u_S (ts : List mT) (S : Nat → Prop) (v : Int32) : Prop := ∀ t, m_gt ts v = some t → S (mt_n t) ∧ ∀ w, m_abv ts w (mt_n t) = true → S w
theorem fold_G {ts : List mT} {step : List Nat → Int32 → List Nat} {S : Nat → Prop} {d : Nat} (hst : ∀ U v, u_iv ts U → 11 ≤ d + U.length → u_S ts S v → u_G ts S U (step U v) ∧ ∀ t, m_gt ts v = some t → mt_n t ∈ step U v) : ∀ (vs : List Int32) (U : List Nat), u_iv ts U → 11 ≤ d + U.length → (∀ v ∈ vs, u_S ts S v) → u_G ts S U (vs.foldl step U) ∧ ∀ v ∈ vs, ∀ t, m_gt ts v = some t → mt_n t ∈ vs.foldl step U
  | [], U, iv, _, _ => ⟨.rf iv, fun v hv => by cases hv⟩
  | v :: vs, U, iv, hd, hS => by
    obtain ⟨g1, m1⟩ := hst U v iv hd (hS v (by simp))
    have hlen := g1.len
    obtain ⟨g2, m2⟩ := fold_G hst vs (step U v) g1.2.1 (by omega) (fun x hx => hS x (by simp [hx]))
    rw [List.foldl_cons]
    refine ⟨g1.tr g2, fun x hx t ht => ?_⟩
    rcases List.mem_cons.mp hx with e | hx
    · subst e
      exact g2.mem (m1 t ht)
    · exact m2 x hx t ht
theorem ct_G {ts : List mT} (hs : m_sx ts) {S : Nat → Prop} : ∀ (d : Nat) (U : List Nat) (v : Int32), u_iv ts U → 11 ≤ d + U.length → u_S ts S v → u_G ts S U (c_ct ts d U v) ∧ ∀ t, m_gt ts v = some t → mt_n t ∈ c_ct ts d U v := by
  intro d
  induction d with
  | zero =>
    intro U v iv hd _
    have := iv_len iv
    have := hs.2.2.1
    omega
  | succ d ih =>
    intro U v iv hd hS
    rw [ct_s]
    cases hg : m_gt ts v with
    | none => exact ⟨.rf iv, fun t h => by cases h⟩
    | some t =>
      dsimp only
      by_cases hm : mt_n t ∈ U
      · rw [if_pos hm]
        exact ⟨.rf iv, fun t' h => by cases h; exact hm⟩
      · rw [if_neg hm]
        obtain ⟨k, hk, ht, hnv⟩ := gt_some hg
        have iv1 := iv_snoc iv ht hm
        have hl1 := iv_len iv1
        rw [List.length_append, List.length_singleton] at hl1
        have hl10 := hs.2.2.1
        have hau : m_au U (mt_n t) = U ++ [mt_n t] := by unfold m_au; rw [if_pos (by omega)]
        rw [hau, cl_fold]
        have hSt := hS t hg
        obtain ⟨g, mm⟩ := fold_G (S := S) ih (m_vs t) (U ++ [mt_n t]) iv1 (by rw [List.length_append, List.length_singleton]; omega) (fun v' hv' t' ht' => by
          have hup := vs_up hs ht hv' ht'
          exact ⟨hSt.2 _ (m_abv_u hup), fun w hw => hSt.2 w (m_abv_t hs.1 (m_abv_u hup) hw)⟩)
        refine ⟨⟨?_, g.2.1, fun w hw hn => ?_⟩, fun t' h => ?_⟩
        · obtain ⟨X, e⟩ := g.1
          exact ⟨[mt_n t] ++ X, by rw [e, List.append_assoc]⟩
        · by_cases hwn : w = mt_n t
          · rw [hwn]
            refine ⟨hSt.1, fun x hx => ?_⟩
            obtain ⟨hxv, k', t', h1, h2, h3⟩ := up_vs hs ht hx
            rw [← h3]
            refine mm (nI x) hxv t' ?_
            unfold m_gt
            rw [h1]; exact h2
          · refine g.2.2 w hw (fun hw2 => ?_)
            rcases List.mem_append.mp hw2 with hw2 | hw2
            · exact hn hw2
            · exact hwn (List.mem_singleton.mp hw2)
        · cases h
          exact g.mem (List.mem_append.mpr (Or.inr (List.mem_singleton.mpr rfl)))
theorem cl_G {ts : List mT} (hs : m_sx ts) {k : Nat} {t : mT} (ht : ts[k]? = some t) : u_G ts (fun w => m_abv ts w (mt_n t) = true) [] (c_cl ts 11 [] t) ∧ ∀ x ∈ m_up ts (mt_n t), x ∈ c_cl ts 11 [] t := by
  rw [cl_fold]
  obtain ⟨g, mm⟩ := fold_G (S := fun w => m_abv ts w (mt_n t) = true) (fun U v a b c => ct_G hs 11 U v a b c) (m_vs t) [] ⟨List.Pairwise.nil, fun w hw => by cases hw⟩ (by simp) (fun v' hv' t' ht' => by
    have hup := vs_up hs ht hv' ht'
    exact ⟨m_abv_u hup, fun w hw => m_abv_t hs.1 (m_abv_u hup) hw⟩)
  refine ⟨g, fun x hx => ?_⟩
  obtain ⟨hxv, k', t', h1, h2, h3⟩ := up_vs hs ht hx
  rw [← h3]
  refine mm (nI x) hxv t' ?_
  unfold m_gt
  rw [h1]; exact h2
theorem us_iff {ts : List mT} (hs : m_sx ts) {k w : Nat} {t : mT} (ht : ts[k]? = some t) : w ∈ c_cl ts 11 [] t ↔ m_abv ts w (mt_n t) = true := by
  obtain ⟨g, hup⟩ := cl_G hs ht
  constructor
  · intro hw
    exact (g.2.2 w hw (by simp)).1
  · have key : ∀ n l, (∀ x ∈ m_up ts l, x ∈ c_cl ts 11 [] t) → m_rch ts n l w = true → w ∈ c_cl ts 11 [] t := by
      intro n
      induction n with
      | zero => intro l _ h; cases h
      | succ n ih =>
        intro l hl h
        obtain ⟨v, hv, h2⟩ := m_rch_s.mp h
        rcases h2 with h2 | h2
        · rw [← h2]; exact hl v hv
        · exact ih v ((g.2.2 v (hl v hv) (by simp)).2) h2
    exact key 16 (mt_n t) hup
theorem Us_eq {ts : List mT} {k : Nat} {t : mT} (ht : ts[k]? = some t) : m_Us ts k = c_cl ts 11 [] t := by unfold m_Us; rw [ht]; rfl
theorem Us_iff {ts : List mT} (hs : m_sx ts) {k w : Nat} {t : mT} (ht : ts[k]? = some t) : w ∈ m_Us ts k ↔ m_abv ts w (mt_n t) = true := by rw [Us_eq ht]; exact us_iff hs ht
/-! finding: the first that has it, in the order of climbing -/
def ffi (ts : List mT) (p : mT → Bool) : Nat → Nat → Option Nat
  | 0, _ => none
  | d + 1, k => match ts[k]? with
    | none => none
    | some t => if p t then some k else (m_vs t).findSome? (fun v => (m_at ts v).bind (fun k' => ffi ts p d k'))
theorem vs_hg {ts : List mT} (hb : ∀ t ∈ ts, mt_n t < 16) {d k : Nat} {t : mT} (hg : m_hg ts (d + 1) k) (ht : ts[k]? = some t) {v : Int32} (hv : v ∈ m_vs t) : m_at ts v = none ∨ ∃ k', m_at ts v = some k' ∧ m_hg ts d k' := by
  obtain ⟨h1, h2⟩ := hg t ht
  unfold m_vs at hv
  rcases List.mem_append.mp hv with hv | hv
  · obtain ⟨x, hx, e⟩ := List.mem_map.mp hv
    rw [← e]
    exact Or.inr (h1 x hx)
  · have hv := List.mem_singleton.mp hv
    cases hu : mt_u t with
    | none =>
      rw [hu] at hv
      have hv : v = -1 := hv
      rw [hv]
      exact Or.inl (at_m1 hb)
    | some u =>
      rw [hu] at hv
      have hv : v = nI u := hv
      rw [hv]
      exact Or.inr (h2 u hu)
theorem ffi_fuel {ts : List mT} (hb : ∀ t ∈ ts, mt_n t < 16) {p : mT → Bool} : ∀ (d k : Nat), m_hg ts d k → ffi ts p (d + 1) k = ffi ts p d k := by
  intro d
  induction d with
  | zero => intro k h; exact h.elim
  | succ d ih =>
    intro k h
    rw [ffi, ffi]
    cases ht : ts[k]? with
    | none => rfl
    | some t =>
      dsimp only
      split
      · rfl
      · refine fs_cong (fun v hv => ?_)
        rcases vs_hg hb h ht hv with e | ⟨k', e, hg'⟩
        · rw [e]; rfl
        · rw [e]
          exact ih k' hg'
theorem ffi_eqD {ts : List mT} (hb : ∀ t ∈ ts, mt_n t < 16) {D : Nat} (hg : ∀ k, k < ts.length → m_hg ts (D + 1) k) {p : mT → Bool} {k : Nat} {t : mT} (ht : ts[k]? = some t) : ffi ts p (D + 1) k = if p t then some k else (m_vs t).findSome? (fun v => (m_at ts v).bind (fun k' => ffi ts p (D + 1) k')) := by
  rw [ffi, ht]
  dsimp only
  split
  · rfl
  · refine fs_cong (fun v hv => ?_)
    rcases vs_hg hb (hg k (jv_ltGet ht)) ht hv with e | ⟨k', e, hg'⟩
    · rw [e]; rfl
    · rw [e]
      show ffi ts p D k' = ffi ts p (D + 1) k'
      exact (ffi_fuel hb D k' hg').symm
theorem ffi_eq {ts : List mT} (hb : ∀ t ∈ ts, mt_n t < 16) (hg : m_sok ts) {p : mT → Bool} {k : Nat} {t : mT} (ht : ts[k]? = some t) : ffi ts p 11 k = if p t then some k else (m_vs t).findSome? (fun v => (m_at ts v).bind (fun k' => ffi ts p 11 k')) := ffi_eqD (D := 10) hb hg ht
theorem ffi_none {ts : List mT} (hs : m_sx ts) (hg : m_sok ts) {p : mT → Bool} : ∀ (n k w : Nat) (t : mT), ts[k]? = some t → ffi ts p 11 k = none → m_rch ts n (mt_n t) w = true → ∀ (k' : Nat) (t' : mT), ts[k']? = some t' → mt_n t' = w → ffi ts p 11 k' = none := by
  intro n
  induction n with
  | zero => intro k w t _ _ h; cases h
  | succ n ih =>
    intro k w t ht hf h k' t' ht' hn'
    obtain ⟨v, hv, h2⟩ := m_rch_s.mp h
    obtain ⟨hvv, k2, t2, e1, e2, e3⟩ := up_vs hs ht hv
    have hf2 : ffi ts p 11 k2 = none := by
      rw [ffi_eq (fun t h => (hs.1 t h).1) hg ht] at hf
      split at hf
      · cases hf
      · have := fs_none hf (nI v) hvv
        rw [e1] at this
        exact this
    rcases h2 with h2 | h2
    · have := hs.2.1 k2 k' t2 t' e2 ht' (by rw [e3, hn', h2])
      rw [← this]; exact hf2
    · exact ih k2 w t2 e2 hf2 (by rw [e3]; exact h2) k' t' ht' hn'
def u_hl (ts : List mT) (p : mT → Bool) (w : Nat) : Option Nat := match m_at ts (nI w) with
  | none => none
  | some j => if (ts[j]?).any p then some j else none
def u_H (ts : List mT) (p : mT → Bool) (vs : List Int32) (U : List Nat) : Prop := ∀ w ∈ U, ∀ (k : Nat) (t : mT), ts[k]? = some t → mt_n t = w → p t = false ∧ (ffi ts p 11 k = none ∨ ∀ v ∈ vs, ∀ t', m_gt ts v = some t' → m_abv ts (mt_n t') w = true)
theorem fold_S {ts : List mT} (hs : m_sx ts) (hg : m_sok ts) {p : mT → Bool} {d : Nat} (hst : ∀ U v, u_iv ts U → 11 ≤ d + U.length → u_H ts p [v] U → ∃ X, c_ct ts d U v = U ++ X ∧ X.findSome? (u_hl ts p) = (m_at ts v).bind (fun k => ffi ts p 11 k)) : ∀ (vs : List Int32) (U : List Nat), u_iv ts U → 11 ≤ d + U.length → u_H ts p vs U → ∃ X, vs.foldl (c_ct ts d) U = U ++ X ∧ X.findSome? (u_hl ts p) = vs.findSome? (fun v => (m_at ts v).bind (fun k => ffi ts p 11 k))
  | [], U, _, _, _ => ⟨[], (List.append_nil U).symm, rfl⟩
  | v :: vs, U, iv, hd, hH => by
    obtain ⟨X1, e1, f1⟩ := hst U v iv hd (fun w hw k t h1 h2 => ⟨(hH w hw k t h1 h2).1, (hH w hw k t h1 h2).2.imp id (fun q v' hv' => q v' (by rw [List.mem_singleton.mp hv']; simp))⟩)
    rw [List.foldl_cons, List.findSome?_cons]
    cases hf : (m_at ts v).bind (fun k => ffi ts p 11 k) with
    | some r =>
      obtain ⟨g1, -⟩ := ct_G hs (S := fun _ => True) d U v iv hd (fun _ _ => ⟨trivial, fun _ _ => trivial⟩)
      have hlen := g1.len
      obtain ⟨g2, -⟩ := fold_G (S := fun _ => True) (ct_G hs d) vs (c_ct ts d U v) g1.2.1 (by omega) (fun _ _ _ _ => ⟨trivial, fun _ _ => trivial⟩)
      obtain ⟨X2, e2⟩ := g2.1
      refine ⟨X1 ++ X2, by rw [e2, e1, List.append_assoc], ?_⟩
      rw [List.findSome?_append, f1, hf]
      rfl
    | none =>
      rw [hf] at f1
      dsimp only
      have hS : u_S ts (fun w => ∀ (k : Nat) (t : mT), ts[k]? = some t → mt_n t = w → ffi ts p 11 k = none) v := fun t ht => by
        obtain ⟨k, h1, h2, h3⟩ := gt_some ht
        rw [h1] at hf
        have hf : ffi ts p 11 k = none := hf
        refine ⟨fun k' t' h4 h5 => ?_, fun w hw k' t' h4 h5 => ffi_none hs hg 16 k w t h2 hf hw k' t' h4 h5⟩
        rw [hs.2.1 k' k t' t h4 h2 h5]; exact hf
      obtain ⟨g1, -⟩ := ct_G hs d U v iv hd hS
      have hlen := g1.len
      have iv1 := g1.2.1
      rw [e1] at iv1 hlen g1
      obtain ⟨X2, e2, f2⟩ := fold_S hs hg hst vs (U ++ X1) iv1 (by omega) (fun w hw k t h1 h2 => by
        by_cases hwU : w ∈ U
        · exact ⟨(hH w hwU k t h1 h2).1, (hH w hwU k t h1 h2).2.imp id (fun q v' hv' => q v' (by simp [hv']))⟩
        · have hX : w ∈ X1 := by
            rcases List.mem_append.mp hw with q | q
            · exact absurd q hwU
            · exact q
          refine ⟨?_, Or.inl ((g1.2.2 w hw hwU).1 k t h1 h2)⟩
          have := fs_none f1 w hX
          unfold u_hl at this
          rw [← h2, at_nm hs h1] at this
          dsimp only at this
          rw [h1] at this
          cases hp : p t with
          | false => rfl
          | true => rw [show (some t).any p = true from hp] at this; cases this)
      refine ⟨X1 ++ X2, by rw [e1, e2, List.append_assoc], ?_⟩
      rw [List.findSome?_append, f1]
      exact f2
theorem ct_S {ts : List mT} (hs : m_sx ts) (hg : m_sok ts) (hc : ∀ t ∈ ts, m_abv ts (mt_n t) (mt_n t) = false) {p : mT → Bool} : ∀ (d : Nat) (U : List Nat) (v : Int32), u_iv ts U → 11 ≤ d + U.length → u_H ts p [v] U → ∃ X, c_ct ts d U v = U ++ X ∧ X.findSome? (u_hl ts p) = (m_at ts v).bind (fun k => ffi ts p 11 k) := by
  intro d
  induction d with
  | zero =>
    intro U v iv hd _
    have := iv_len iv
    have := hs.2.2.1
    omega
  | succ d ih =>
    intro U v iv hd hH
    cases hgv : m_gt ts v with
    | none =>
      refine ⟨[], by rw [ct_s, hgv, List.append_nil], ?_⟩
      cases ha : m_at ts v with
      | none => rfl
      | some k =>
        obtain ⟨t, h1, -⟩ := gt_at ha
        rw [h1] at hgv; cases hgv
    | some t =>
      obtain ⟨k, hk, ht, hnv⟩ := gt_some hgv
      rw [hk]
      show ∃ X, _ ∧ _ = ffi ts p 11 k
      by_cases hm : mt_n t ∈ U
      · refine ⟨[], by rw [ct_s, hgv]; dsimp only; rw [if_pos hm, List.append_nil], ?_⟩
        obtain ⟨-, q⟩ := hH _ hm k t ht rfl
        rcases q with q | q
        · rw [q]; rfl
        · have := q v (by simp) t hgv
          rw [hc t (List.mem_of_getElem? ht)] at this
          cases this
      · have iv1 := iv_snoc iv ht hm
        have hl1 := iv_len iv1
        rw [List.length_append, List.length_singleton] at hl1
        have hl10 := hs.2.2.1
        have hau : m_au U (mt_n t) = U ++ [mt_n t] := by unfold m_au; rw [if_pos (by omega)]
        have ec : c_ct ts (d + 1) U v = (m_vs t).foldl (c_ct ts d) (U ++ [mt_n t]) := by
          rw [ct_s, hgv]
          dsimp only
          rw [if_neg hm, hau, cl_fold]
        have hd1 : 11 ≤ d + (U ++ [mt_n t]).length := by rw [List.length_append, List.length_singleton]; omega
        rw [ec, ffi_eq (fun t h => (hs.1 t h).1) hg ht]
        by_cases hp : p t = true
        · rw [if_pos hp]
          obtain ⟨g, -⟩ := fold_G (S := fun _ => True) (ct_G hs d) (m_vs t) (U ++ [mt_n t]) iv1 hd1 (fun _ _ _ _ => ⟨trivial, fun _ _ => trivial⟩)
          obtain ⟨X, e⟩ := g.1
          refine ⟨[mt_n t] ++ X, by rw [e, List.append_assoc], ?_⟩
          rw [List.findSome?_append]
          have : [mt_n t].findSome? (u_hl ts p) = some k := by
            rw [List.findSome?_cons]
            unfold u_hl
            rw [at_nm hs ht]
            dsimp only
            rw [ht, if_pos (show (some t).any p = true from hp)]
          rw [this]; rfl
        · rw [if_neg hp]
          have hpf : p t = false := by simpa using hp
          obtain ⟨X, e, f⟩ := fold_S hs hg ih (m_vs t) (U ++ [mt_n t]) iv1 hd1 (fun w hw k' t' h1 h2 => by
            rcases List.mem_append.mp hw with hw | hw
            · obtain ⟨q1, q2⟩ := hH w hw k' t' h1 h2
              refine ⟨q1, q2.imp id (fun q v' hv' t2 ht2 => ?_)⟩
              exact m_abv_t hs.1 (q v (by simp) t hgv) (m_abv_u (vs_up hs ht hv' ht2))
            · have hw := List.mem_singleton.mp hw
              have hkk := hs.2.1 k' k t' t h1 ht (h2.trans hw)
              subst hkk
              cases h1.symm.trans ht
              exact ⟨hpf, Or.inr (fun v' hv' t2 ht2 => by rw [hw]; exact m_abv_u (vs_up hs ht hv' ht2))⟩)
          refine ⟨[mt_n t] ++ X, by rw [e, List.append_assoc], ?_⟩
          rw [List.findSome?_append]
          have : [mt_n t].findSome? (u_hl ts p) = none := by
            rw [List.findSome?_cons]
            unfold u_hl
            rw [at_nm hs ht]
            dsimp only
            rw [ht, if_neg (show ¬ (some t).any p = true from by simp [hpf])]
            rfl
          rw [this]
          exact f
theorem hf_ffi {ts : List mT} (hs : m_sx ts) (hg : m_sok ts) (hc : ∀ t ∈ ts, m_abv ts (mt_n t) (mt_n t) = false) {k : Nat} {t : mT} (ht : ts[k]? = some t) {ko : Option Nat} : c_hf ts (m_Us ts) k ko = ffi ts (fun y => m_has y false ko) 11 k := by
  rw [ffi_eq (fun t h => (hs.1 t h).1) hg ht]
  unfold c_hf
  rw [ht, Us_eq ht, cl_fold]
  show (if m_has t false ko = true then _ else _) = _
  split
  · rfl
  · obtain ⟨X, e, f⟩ := fold_S hs hg (ct_S hs hg hc (p := fun y => m_has y false ko) 11) (m_vs t) [] ⟨List.Pairwise.nil, fun w hw => by cases hw⟩ (by simp) (fun w hw => by cases hw)
    rw [e]
    rw [← f]
    rfl
