/-- the types' rows of an edition behind a drop -/
def dT (T : Nat → Nat) (e d n : Nat) : Nat → Nat := fun i => if 10 * e ≤ i ∧ i < 10 * e + 10 then (if i < 10 * e + d then T i else if i + 1 < 10 * e + n then T (i + 1) else if i + 1 = 10 * e + n then T (10 * e + d) else T i) else T i
theorem dT_in {T : Nat → Nat} {e d n k : Nat} (hd : d < n) (hn : n ≤ 10) (hk : k < 10) : ∃ k', k' < 10 ∧ dT T e d n (10 * e + k) = T (10 * e + k') := by
  unfold dT
  rw [if_pos (by omega)]
  split
  · exact ⟨k, hk, rfl⟩
  · split
    · exact ⟨k + 1, by omega, rfl⟩
    · split
      · exact ⟨d, by omega, rfl⟩
      · exact ⟨k, hk, rfl⟩
theorem dT_inj {T : Nat → Nat} {e d n : Nat} (hd : d < n) (hn : n ≤ 10) (hT : ∀ k k', k < 10 → k' < 10 → T (10 * e + k) = T (10 * e + k') → k = k') : ∀ k k', k < 10 → k' < 10 → dT T e d n (10 * e + k) = dT T e d n (10 * e + k') → k = k' := by
  intro k k' hk hk' q
  have g : ∀ k, k < 10 → dT T e d n (10 * e + k) = T (10 * e + (if k < d then k else if k + 1 < n then k + 1 else if k + 1 = n then d else k)) := fun k hk => by
    unfold dT
    rw [if_pos (by omega)]
    by_cases h1 : k < d
    · rw [if_pos (by omega), if_pos h1]
    · rw [if_neg (by omega), if_neg h1]
      by_cases h2 : k + 1 < n
      · rw [if_pos (by omega), if_pos h2]; rfl
      · rw [if_neg (by omega), if_neg h2]
        by_cases h3 : k + 1 = n
        · rw [if_pos (by omega), if_pos h3]
        · rw [if_neg (by omega), if_neg h3]
  rw [g k hk, g k' hk'] at q
  have := hT _ _ (by split <;> (try split) <;> (try split) <;> omega) (by split <;> (try split) <;> (try split) <;> omega) q
  revert this
  split <;> split <;> (try split) <;> (try split) <;> (try split) <;> (try split) <;> omega
theorem at_iff {ts : List mT} (hu : m_uq ts) (hb : ∀ t ∈ ts, mt_n t < 16) {n : Int32} {k : Nat} {t : mT} (ht : ts[k]? = some t) (hn : nI (mt_n t) = n) : m_at ts n = some k := by
  cases hm : m_at ts n with
  | none =>
    have := sf_none.mp hm k (Nat.zero_le _) (by have := jv_ltGet ht; omega)
    rw [ht] at this
    simp [hn] at this
  | some j =>
    obtain ⟨t', h1, h2⟩ := m_at_get hm
    have b1 := hb t (List.mem_of_getElem? ht)
    have b2 := hb t' (List.mem_of_getElem? h1)
    exact congrArg some (hu j k t' t h1 ht ((nI_eq (by omega) (by omega)).mp (h2.trans hn.symm)))
theorem er_get {ts : List mT} {d j : Nat} {t : mT} (h : (ts.eraseIdx d)[j]? = some t) : ∃ j', ts[j']? = some t ∧ j' = (if j < d then j else j + 1) := by
  by_cases hj : j < d
  · rw [er_lt hj] at h; exact ⟨j, h, by rw [if_pos hj]⟩
  · rw [er_ge (by omega)] at h; exact ⟨j + 1, h, by rw [if_neg hj]⟩
theorem uq_erase {ts : List mT} (hu : m_uq ts) (d : Nat) : m_uq (ts.eraseIdx d) := fun i j t t' hi hj hn => by
  obtain ⟨i', h1, h2⟩ := er_get hi
  obtain ⟨j', g1, g2⟩ := er_get hj
  have := hu i' j' t t' h1 g1 hn
  subst h2; subst g2
  split at this <;> split at this <;> omega
theorem at_erase {ts : List mT} (hu : m_uq ts) (hb : ∀ t ∈ ts, mt_n t < 16) {n : Int32} {d : Nat} : m_at (ts.eraseIdx d) n = (match m_at ts n with
    | none => none
    | some k => if k = d then none else some (if k < d then k else k - 1)) := by
  have hb2 : ∀ t ∈ ts.eraseIdx d, mt_n t < 16 := fun t ht => hb t (List.mem_of_mem_eraseIdx ht)
  cases hm : m_at ts n with
  | none =>
    cases h : m_at (ts.eraseIdx d) n with
    | none => rfl
    | some j =>
      obtain ⟨t, h1, h2⟩ := m_at_get h
      obtain ⟨j', g1, -⟩ := er_get h1
      rw [at_iff hu hb g1 h2] at hm; cases hm
  | some k =>
    obtain ⟨t, h1, h2⟩ := m_at_get hm
    dsimp only
    by_cases hk : k = d
    · rw [if_pos hk]
      cases h : m_at (ts.eraseIdx d) n with
      | none => rfl
      | some j =>
        obtain ⟨t', g1, g2⟩ := m_at_get h
        obtain ⟨j', q1, q2⟩ := er_get g1
        have b1 := hb t (List.mem_of_getElem? h1)
        have b2 := hb t' (List.mem_of_getElem? q1)
        have := hu k j' t t' h1 q1 ((nI_eq (by omega) (by omega)).mp (h2.trans g2.symm))
        subst q2
        split at this <;> omega
    · rw [if_neg hk]
      refine at_iff (uq_erase hu d) hb2 (t := t) ?_ h2
      by_cases hkd : k < d
      · rw [if_pos hkd, er_lt hkd]; exact h1
      · rw [if_neg hkd, er_ge (by omega)]
        rw [show k - 1 + 1 = k by omega]; exact h1
set_option maxHeartbeats 4000000 in
set_option maxRecDepth 100000 in
theorem k_dt_loop {E : jv_E} {Q : State → Prop} {z : Nat → Nat → Nat} {T : Nat → Nat} {N : Nat → Nat → Nat} {tO : Nat → Nat} {h : jv_H} {e : Nat} {ts : List mT} (hE : cv_E z T N h e ts) (oe : el_o z T N tO e) {d : Nat} {g : mT} (hg : ts[d]? = some g) (hu : m_uq ts) (G : jv_C E cX2_dropType RX2 4) (hk : ∀ h2, cG (fun c => c = z 1 e) h h2 → (∀ j, j < 10 → jv_P h2 (z 1 e) j = some (if j < ts.length - 1 then (dT T e d ts.length) (10 * e + j) else T (10 * e + j))) → jv_V E 4 h2 0 0 Q 49 [(2, .int (nI (ts.length - 1))), (0, .ref (z 0 e)), (1, .ref (T (10 * e + d)))] []) : ∀ (n i k : Nat) (h1 : jv_H), i + n = ts.length → k = (if i ≤ d then i else i - 1) → cG (fun c => c = z 1 e) h h1 → (∀ j, j < 10 → jv_P h1 (z 1 e) j = some (if j < k then (dT T e d ts.length) (10 * e + j) else T (10 * e + j))) → jv_V E 4 h1 0 0 Q 4 [(3, .int (nI i)), (2, .int (nI k)), (0, .ref (z 0 e)), (1, .ref (T (10 * e + d)))] [] := by
  have hl10 := hE.2.2.2.1; have hdl := jv_ltGet hg
  intro n
  induction n with
  | zero =>
    intro i k h1 hn hkk hF hP
    have hz1T : ∀ k, k < 10 → ¬ (T (10 * e + k) = z 1 e) := fun k hk q => by have q1 := (hE.2.1 k hk).1; rw [q, hE.1.2.2.1] at q1; cases q1
    have hz10 : ¬ (z 0 e = z 1 e) := fun q => by have q1 := hE.1.1; rw [q, hE.1.2.2.1] at q1; cases q1
    have hd10 : d < 10 := by omega
    have bg := hE.n16 g (List.mem_of_getElem? hg)
    refine jv_iload_n (q := 5) G 0 dX2_dropType_4 rfl rfl rfl ?_
    refine jv_aload_n (q := 6) G 2 dX2_dropType_5 rfl rfl rfl ?_
    refine jv_getI (q := 9) G dX2_dropType_6 fl_X2_33 rfl ((congrFun hF.1 _).trans hE.1.1) ((hF.i hz10 3).trans hE.2.2.1) rfl ?_
    refine jv_icmp_geN (q := 12) (tgt := 49) G dX2_dropType_9 (by decide) rfl (by omega) (by omega) (fun c1 => ?_) (fun c1 => ?_)
    · refine jv_lo [1, 2, 3] (lo' := [(2, .int (nI k)), (0, .ref (z 0 e)), (1, .ref (T (10 * e + d)))]) rfl ?_
      have ek : k = ts.length - 1 := by rw [hkk, if_neg (by omega)]; omega
      rw [ek] at hP ⊢
      exact hk _ hF hP
    · omega
  | succ n ih =>
    intro i k h1 hn hkk hF hP
    have hz1T : ∀ k, k < 10 → ¬ (T (10 * e + k) = z 1 e) := fun k hk q => by have q1 := (hE.2.1 k hk).1; rw [q, hE.1.2.2.1] at q1; cases q1
    have hz10 : ¬ (z 0 e = z 1 e) := fun q => by have q1 := hE.1.1; rw [q, hE.1.2.2.1] at q1; cases q1
    have hd10 : d < 10 := by omega
    have bg := hE.n16 g (List.mem_of_getElem? hg)
    obtain ⟨t, ht⟩ := jv_getLt (l := ts) (k := i) (by omega)
    have hi10 : i < 10 := by omega
    have hki : k ≤ i := by rw [hkk]; split <;> omega
    have hPi : jv_P h1 (z 1 e) i = some (T (10 * e + i)) := by rw [hP i hi10, if_neg (by omega)]
    have bt := hE.n16 t (List.mem_of_getElem? ht)
    refine jv_iload_n (q := 5) G 0 dX2_dropType_4 rfl rfl rfl ?_
    refine jv_aload_n (q := 6) G 2 dX2_dropType_5 rfl rfl rfl ?_
    refine jv_getI (q := 9) G dX2_dropType_6 fl_X2_33 rfl ((congrFun hF.1 _).trans hE.1.1) ((hF.i hz10 3).trans hE.2.2.1) rfl ?_
    refine jv_icmp_geN (q := 12) (tgt := 49) G dX2_dropType_9 (by decide) rfl (by omega) (by omega) (fun c1 => ?_) (fun c1 => ?_)
    · omega
    · refine jv_aload_n (q := 13) G 2 dX2_dropType_12 rfl rfl rfl ?_
      refine jv_getQ (q := 16) G dX2_dropType_13 fl_X2_11 rfl ((congrFun hF.1 _).trans hE.1.1) ((hF.p hz10 2).trans hE.1.2.1) rfl ?_
      refine jv_iload_n (q := 17) G 0 dX2_dropType_16 rfl rfl rfl ?_
      refine jv_aaldQ (q := 18) G dX2_dropType_17 ((congrFun hF.1 _).trans hE.1.2.2.1) rfl (by omega) (by decide) hPi rfl ?_
      refine jv_getI (q := 21) G dX2_dropType_18 fl_X2_40 rfl ((congrFun hF.1 _).trans (hE.2.1 i hi10).1) ((hF.i (hz1T i hi10) 0).trans (ct_0 (hE.2.2.2.2.1 i t ht).1)) rfl ?_
      refine jv_aload_n (q := 22) G 3 dX2_dropType_21 rfl rfl rfl ?_
      refine jv_getI (q := 25) G dX2_dropType_22 fl_X2_40 rfl ((congrFun hF.1 _).trans (hE.2.1 d hd10).1) ((hF.i (hz1T d hd10) 0).trans (ct_0 (hE.2.2.2.2.1 d g hg).1)) rfl ?_
      refine jv_icmp_eqN (q := 28) (tgt := 43) G dX2_dropType_25 (by decide) rfl (by omega) (by omega) (fun c2 => ?_) (fun c2 => ?_)
      · refine jv_iinc (q := 46) (lo' := [(3, .int (nI (i + 1))), (2, .int (nI k)), (0, .ref (z 0 e)), (1, .ref (T (10 * e + d)))]) (v := nI (i + 1)) G 0 dX2_dropType_43 rfl (nI_1 i) (by decide) rfl rfl ?_
        refine jv_goto (q := 4) G dX2_dropType_46 (by decide) ?_
        refine jv_lo [0, 1, 2, 3] (lo' := [(3, .int (nI (i + 1))), (2, .int (nI k)), (0, .ref (z 0 e)), (1, .ref (T (10 * e + d)))]) rfl ?_
        have eid : i = d := hu i d t g ht hg c2
        refine ih (i + 1) k _ (by omega) ?_ hF hP
        rw [hkk, if_pos (by omega), if_neg (by omega)]; omega
      · refine jv_aload_n (q := 29) G 2 dX2_dropType_28 rfl rfl rfl ?_
        refine jv_getQ (q := 32) G dX2_dropType_29 fl_X2_11 rfl ((congrFun hF.1 _).trans hE.1.1) ((hF.p hz10 2).trans hE.1.2.1) rfl ?_
        refine jv_iload_n (q := 33) G 1 dX2_dropType_32 rfl rfl rfl ?_
        refine jv_aload_n (q := 34) G 2 dX2_dropType_33 rfl rfl rfl ?_
        refine jv_getQ (q := 37) G dX2_dropType_34 fl_X2_11 rfl ((congrFun hF.1 _).trans hE.1.1) ((hF.p hz10 2).trans hE.1.2.1) rfl ?_
        refine jv_iload_n (q := 38) G 0 dX2_dropType_37 rfl rfl rfl ?_
        refine jv_aaldQ (q := 39) G dX2_dropType_38 ((congrFun hF.1 _).trans hE.1.2.2.1) rfl (by omega) (by decide) hPi rfl ?_
        refine jv_aast (q := 40) G (ci := 5) rfl dX2_dropType_39 ((congrFun hF.1 _).trans hE.1.2.2.1) ((congrFun hF.1 _).trans (hE.2.1 i hi10).1) rfl (by omega) (by decide) rfl ?_
        refine jv_iinc (q := 43) (lo' := [(2, .int (nI (k + 1))), (3, .int (nI i)), (0, .ref (z 0 e)), (1, .ref (T (10 * e + d)))]) (v := nI (k + 1)) G 1 dX2_dropType_40 rfl (nI_1 k) (by decide) rfl rfl ?_
        refine jv_iinc (q := 46) (lo' := [(3, .int (nI (i + 1))), (2, .int (nI (k + 1))), (0, .ref (z 0 e)), (1, .ref (T (10 * e + d)))]) (v := nI (i + 1)) G 1 dX2_dropType_43 rfl (nI_1 i) (by decide) rfl rfl ?_
        refine jv_goto (q := 4) G dX2_dropType_46 (by decide) ?_
        refine jv_lo [0, 1, 2, 3] (lo' := [(3, .int (nI (i + 1))), (2, .int (nI (k + 1))), (0, .ref (z 0 e)), (1, .ref (T (10 * e + d)))]) rfl ?_
        have eid : i ≠ d := fun q => by subst q; cases ht.symm.trans hg; exact c2 rfl
        refine ih (i + 1) (k + 1) _ (by omega) ?_ (hF.wP rfl _ _) (fun j hj => ?_)
        · rw [hkk]; split <;> split <;> omega
        · rw [jv_P_wP]
          by_cases ej : j = k
          · rw [if_pos ⟨rfl, ej⟩, if_pos (by omega), ej]
            congr 1
            unfold dT
            rw [hkk]
            by_cases hid : i ≤ d
            · rw [if_pos hid, if_pos (by omega), if_pos (by omega)]
            · rw [if_neg hid, if_pos (by omega), if_neg (by omega), if_pos (by omega)]
              congr 1; omega
          · rw [if_neg (fun q => ej q.2), hP j hj]
            congr 1
            by_cases hjk : j < k
            · rw [if_pos hjk, if_pos (by omega)]
            · rw [if_neg hjk, if_neg (by omega)]
set_option maxHeartbeats 4000000 in
set_option maxRecDepth 100000 in
theorem k_dropType {lA : Launch} (hlt : lA.stackTraces = false) {D : jv_D} {base : Nat} {z : Nat → Nat → Nat} {T : Nat → Nat} {N : Nat → Nat → Nat} {tO : Nat → Nat} {h : jv_H} {e : Nat} {ts : List mT} (hE : cv_E z T N h e ts) (oe : el_o z T N tO e) {d : Nat} {g : mT} (hg : ts[d]? = some g) (hu : m_uq ts) : jv_Met lA D base yX2_dropType (.code yX2_dropType cX2_dropType 4 none) 1 0 0 [.ref (z 0 e), .ref (T (10 * e + d))] h (fun y h' => y = none ∧ cG (fun b => tO b = z 0 e ∨ ∃ k, k < 10 ∧ tO b = T (10 * e + k)) h h' ∧ cv_E z (dT T e d ts.length) N h' e (ts.eraseIdx d) ∧ jv_I h' (z 0 e) 1 = jv_I h (z 0 e) 1) jv_no := by
  refine jv_ofV (lo := [(0, .ref (z 0 e)), (1, .ref (T (10 * e + d)))]) hlt (by decide) (Nat.le_of_ble_eq_true rfl) rfl (fun E hEl hEd hEz Z G hr ht hnm => ?_)
  subst hEl; subst hEd; subst hEz
  have hl10 := hE.2.2.2.1; have hdl := jv_ltGet hg
  have hz1T : ∀ k, k < 10 → ¬ (T (10 * e + k) = z 1 e) := fun k hk q => by have q1 := (hE.2.1 k hk).1; rw [q, hE.1.2.2.1] at q1; cases q1
  have hz10 : ¬ (z 0 e = z 1 e) := fun q => by have q1 := hE.1.1; rw [q, hE.1.2.2.1] at q1; cases q1
  have hd10 : d < 10 := by omega
  have bg := hE.n16 g (List.mem_of_getElem? hg)
  refine jv_iconst (q := 1) (v := nI 0) G dX2_dropType_0 (by decide) rfl ?_
  refine jv_istore_n (q := 2) (lo' := [(2, .int (nI 0)), (0, .ref (z 0 e)), (1, .ref (T (10 * e + d)))]) G dX2_dropType_1 rfl (by decide) rfl rfl ?_
  refine jv_iconst (q := 3) (v := nI 0) G dX2_dropType_2 (by decide) rfl ?_
  refine jv_istore_n (q := 4) (lo' := [(3, .int (nI 0)), (2, .int (nI 0)), (0, .ref (z 0 e)), (1, .ref (T (10 * e + d)))]) G dX2_dropType_3 rfl (by decide) rfl rfl ?_
  refine jv_lo [0, 1, 2, 3] (lo' := [(3, .int (nI 0)), (2, .int (nI 0)), (0, .ref (z 0 e)), (1, .ref (T (10 * e + d)))]) rfl ?_
  refine k_dt_loop hE oe hg hu G (fun h2 hF hP => ?_) ts.length 0 0 _ (by omega) (by rw [if_pos (Nat.zero_le _)]) cG.rf (fun j hj => by rw [if_neg (by omega)]; exact hE.1.2.2.2.2.2.2 j hj)
  have hz20 : z 2 e ≠ z 0 e := fun q => by have h1 := hE.1.2.2.2.2.1; rw [q, hE.1.1] at h1; cases h1
  have hz21 : z 2 e ≠ z 1 e := fun q => by have h1 := hE.1.2.2.2.2.1; rw [q, hE.1.2.2.1] at h1; cases h1
  refine jv_aload_n (q := 50) G 1 dX2_dropType_49 rfl rfl rfl ?_
  refine jv_getQ (q := 53) G dX2_dropType_50 fl_X2_17 rfl ((congrFun hF.1 _).trans hE.1.1) ((hF.p hz10 4).trans hE.1.2.2.2.1) rfl ?_
  refine jv_aload_n (q := 54) G 2 dX2_dropType_53 rfl rfl rfl ?_
  refine jv_getI (q := 57) G dX2_dropType_54 fl_X2_40 rfl ((congrFun hF.1 _).trans (hE.2.1 d hd10).1) ((hF.i (hz1T d hd10) 0).trans (ct_0 (hE.2.2.2.2.1 d g hg).1)) rfl ?_
  refine jv_null (q := 58) G dX2_dropType_57 rfl ?_
  refine jv_aastN (q := 59) G dX2_dropType_58 ((congrFun hF.1 _).trans hE.1.2.2.2.2.1) rfl (by omega) (by decide) rfl ?_
  refine jv_iload_n (q := 60) G 0 dX2_dropType_59 rfl rfl rfl ?_
  refine jv_aload_n (q := 61) G 1 dX2_dropType_60 rfl rfl rfl ?_
  refine jv_getI (q := 64) G dX2_dropType_61 fl_X2_33 rfl ((congrFun hF.1 _).trans hE.1.1) ((hF.i hz10 3).trans hE.2.2.1) rfl ?_
  refine jv_icmp_geN (q := 67) (tgt := 74) G dX2_dropType_64 (by decide) rfl (by omega) (by omega) (fun c1 => ?_) (fun c1 => ?_)
  · omega
  · refine jv_aload_n (q := 68) G 1 dX2_dropType_67 rfl rfl rfl ?_
    refine jv_getQ (q := 71) G dX2_dropType_68 fl_X2_11 rfl ((congrFun hF.1 _).trans hE.1.1) ((jv_P_wP _ _ _ _ _ _).trans ((if_neg (fun q => hz20 q.1.symm)).trans ((hF.p hz10 2).trans hE.1.2.1))) rfl ?_
    refine jv_iload_n (q := 72) G 0 dX2_dropType_71 rfl rfl rfl ?_
    refine jv_aload_n (q := 73) G 2 dX2_dropType_72 rfl rfl rfl ?_
    refine jv_aast (q := 74) G (ci := 5) rfl dX2_dropType_73 ((congrFun hF.1 _).trans hE.1.2.2.1) ((congrFun hF.1 _).trans (hE.2.1 d hd10).1) rfl (by omega) (by decide) rfl ?_
    refine jv_aload_n (q := 75) G 1 dX2_dropType_74 rfl rfl rfl ?_
    refine jv_iload_n (q := 76) G 0 dX2_dropType_75 rfl rfl rfl ?_
    refine jv_putI (q := 79) G dX2_dropType_76 fl_X2_33 rfl ((congrFun hF.1 _).trans hE.1.1) rfl ?_
    refine jv_vret G hr dX2_dropType_79 (Nat.le_of_ble_eq_true rfl) (Nat.le_of_ble_eq_true rfl) ?_
    have hG3 : cG (fun b => b = z 1 e ∨ b = z 2 e ∨ b = z 0 e) h (jv_wI (jv_wP (jv_wP h2 (z 2 e) (mt_n g) none) (z 1 e) (ts.length - 1) (some (T (10 * e + d)))) (z 0 e) 3 (nI (ts.length - 1))) := (((hF.mono (S' := (fun b => b = z 1 e ∨ b = z 2 e ∨ b = z 0 e)) (fun b q => Or.inl q)).wP (Or.inr (Or.inl rfl)) _ _).wP (Or.inl rfl) _ _).wI (Or.inr (Or.inr rfl)) 3 _
    have hG : cG (fun b => tO b = z 0 e ∨ ∃ k, k < 10 ∧ tO b = T (10 * e + k)) h (jv_wI (jv_wP (jv_wP h2 (z 2 e) (mt_n g) none) (z 1 e) (ts.length - 1) (some (T (10 * e + d)))) (z 0 e) 3 (nI (ts.length - 1))) := hG3.mono (fun b q => by
      rcases q with q | q | q
      · rw [q]; exact Or.inl oe.2.1
      · rw [q]; exact Or.inl oe.2.2.1
      · rw [q]; exact Or.inl oe.1)
    have n3 : ∀ k, k < 10 → ∀ b, tO b = T (10 * e + k) → ¬ (fun b => b = z 1 e ∨ b = z 2 e ∨ b = z 0 e) b := fun k hk b q1 q2 => by
      rcases q2 with q2 | q2 | q2
      · rw [q2, oe.2.1] at q1; exact z0_T hE hk q1
      · rw [q2, oe.2.2.1] at q1; exact z0_T hE hk q1
      · rw [q2, oe.1] at q1; exact z0_T hE hk q1
    have hP1 : ∀ j, j < 10 → jv_P (jv_wI (jv_wP (jv_wP h2 (z 2 e) (mt_n g) none) (z 1 e) (ts.length - 1) (some (T (10 * e + d)))) (z 0 e) 3 (nI (ts.length - 1))) (z 1 e) j = some ((dT T e d ts.length) (10 * e + j)) := fun j hj => by
      rw [jv_P_wI, jv_P_wP]
      by_cases q : j = ts.length - 1
      · rw [if_pos ⟨rfl, q⟩]
        congr 1
        unfold dT
        rw [if_pos (by omega), if_neg (by omega), if_neg (by omega), if_pos (by omega)]
      · rw [if_neg (fun y => q y.2), jv_P_wP, if_neg (fun y => hz21 y.1.symm), hP j hj]
        congr 1
        by_cases q2 : j < ts.length - 1
        · rw [if_pos q2]
        · rw [if_neg q2]
          unfold dT
          rw [if_pos (by omega), if_neg (by omega), if_neg (by omega), if_neg (by omega)]
    have hP0 : ∀ j, jv_P (jv_wI (jv_wP (jv_wP h2 (z 2 e) (mt_n g) none) (z 1 e) (ts.length - 1) (some (T (10 * e + d)))) (z 0 e) 3 (nI (ts.length - 1))) (z 0 e) j = jv_P h (z 0 e) j := fun j => by
      rw [jv_P_wI, jv_P_wP, if_neg (fun y => hz10 y.1), jv_P_wP, if_neg (fun y => hz20 y.1.symm)]; exact hF.p hz10 j
    refine ⟨rfl, hG, ?_, by rw [oI_o, if_neg (by decide)]; exact hF.i hz10 1⟩
    refine ⟨⟨(congrFun hG.1 _).trans hE.1.1, (hP0 2).trans hE.1.2.1, (congrFun hG.1 _).trans hE.1.2.2.1, (hP0 4).trans hE.1.2.2.2.1, (congrFun hG.1 _).trans hE.1.2.2.2.2.1, ?_, hP1⟩, fun k hk => ?_, ?_, ?_, fun k t ht => ?_, fun j hj => ?_⟩
    · rw [oI_o, if_neg (by decide)]
      exact (hF.i hz10 0).trans hE.1.2.2.2.2.2.1
    · obtain ⟨k', hk', q⟩ := dT_in (T := T) (e := e) hdl hl10 hk
      rw [q]; exact hG3.t (oe.2.2.2.1 k' hk') (n3 k' hk') (hE.2.1 k' hk')
    · rw [oI_o, if_pos rfl, er_len hdl]
    · rw [er_len hdl]; omega
    · have hkl := jv_ltGet ht
      rw [er_len hdl] at hkl
      obtain ⟨k', h1, h2⟩ := er_get ht
      have hk'10 : k' < 10 := by have := jv_ltGet h1; omega
      have q : (dT T e d ts.length) (10 * e + k) = T (10 * e + k') := by
        unfold dT
        rw [if_pos (by omega), h2]
        by_cases hkd : k < d
        · rw [if_pos (by omega), if_pos hkd]
        · rw [if_neg (by omega), if_pos (by omega), if_neg hkd]; rfl
      rw [q]
      have hr0 := hE.2.2.2.2.1 k' t h1
      exact ⟨hG3.vT hr0.2 (oe.2.2.2.1 k' hk'10) (n3 k' hk'10) hr0.1, hr0.2⟩
    · rw [at_erase hu hE.n16, jv_P_wI, jv_P_wP, if_neg (fun y => hz21 y.1), jv_P_wP]
      by_cases hjg : j = mt_n g
      · subst hjg
        rw [if_pos ⟨rfl, rfl⟩, at_iff hu hE.n16 hg rfl]; dsimp only; rw [if_pos rfl]; rfl
      · rw [if_neg (fun y => hjg y.2), hF.p hz21 j, hE.2.2.2.2.2 j hj]
        cases hm : m_at ts (nI j) with
        | none => rfl
        | some k =>
          obtain ⟨t, h1, h2⟩ := m_at_get hm
          have hkl := jv_ltGet h1
          have bt := hE.n16 t (List.mem_of_getElem? h1)
          have hkd : k ≠ d := fun q => by subst q; cases h1.symm.trans hg; exact hjg ((nI_eq (by omega) (by omega)).mp h2).symm
          dsimp only
          rw [if_neg hkd]
          show some (T (10 * e + k)) = some ((dT T e d ts.length) (10 * e + (if k < d then k else k - 1)))
          congr 1
          unfold dT
          by_cases q : k < d
          · rw [if_pos q, if_pos (by omega), if_pos (by omega)]
          · rw [if_neg q, if_pos (by omega), if_neg (by omega), if_pos (by omega)]
            congr 1; omega
