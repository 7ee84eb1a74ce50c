set_option maxHeartbeats 4000000 in
set_option maxRecDepth 100000 in
theorem k_addMember {lA : Launch} (hlt : lA.stackTraces = false) {D : jv_D} {base : Nat} {z : Nat → Nat → Nat} {N : Nat → Nat → Nat} {h : jv_H} {a : Nat} {t : mT} (tl : cl_t z N h a) (hv : cv_T z N h a t) (ho : mt_ok t) {w n s ac bd : Int32} {st : Bool} {K : Nat} (hl : (mt_m t).length < 6) (hK : K < 64) (eK : K = 4 * n.toNatClampNeg + s.toNatClampNeg) (hac : ac = nI ac.toNatClampNeg) (hN : ∀ i j, i < 6 → j < 6 → N a i = N a j → i = j) : jv_Met lA D base yX5_addMember (.code yX5_addMember cX5_addMember 6 none) 2 0 0 [.ref a, .int w, .int (nI K), .int ac, .int (jv_bI st), .int bd] h (fun y h' => y = none ∧ cF (fun c => c = a ∨ ∃ j, j < 6 ∧ c = N a j) h h' ∧ cv_T z N h' a (m_tM t (mt_m t ++ [m_mbN w n s ac st bd]))) jv_no := by
  refine jv_ofV (lo := [(0, .ref a), (1, .int w), (2, .int (nI K)), (3, .int ac), (4, .int (jv_bI st)), (5, .int bd)]) hlt (by decide) (Nat.le_of_ble_eq_true rfl) rfl (fun E hEl hEd hEz Z G hr ht hnm => ?_)
  subst hEl; subst hEd; subst hEz
  have hl6 := ho.2.2.2.2.2.1
  refine jv_aload_n (q := 1) G 0 dX5_addMember_0 rfl rfl rfl ?_
  refine jv_getQ (q := 4) G dX5_addMember_1 fl_X5_17 rfl tl.1 tl.2.2.2.1 rfl ?_
  refine jv_aload_n (q := 5) G 0 dX5_addMember_4 rfl rfl rfl ?_
  refine jv_getI (q := 8) G dX5_addMember_5 fl_X5_48 rfl tl.1 (ct_9 hv) rfl ?_
  refine jv_aaldQ (q := 9) G dX5_addMember_8 tl.2.2.2.2.1 rfl (by omega) (by decide) (tl.2.2.2.2.2.2.2 ((mt_m t).length) hl).1 rfl ?_
  refine jv_iload_n (q := 10) G 1 dX5_addMember_9 rfl rfl rfl ?_
  refine jv_iload_n (q := 11) G 2 dX5_addMember_10 rfl rfl rfl ?_
  refine jv_iload_n (q := 12) G 3 dX5_addMember_11 rfl rfl rfl ?_
  refine jv_iload (q := 14) G 4 dX5_addMember_12 rfl rfl ?_
  refine jv_iload (q := 16) G 5 dX5_addMember_14 rfl rfl ?_
  refine jv_callV (q := 19) (As := [.int w, .int (nI K), .int ac, .int (jv_bI st), .int bd]) (rest := []) G Z ml_X5_69 (k_mBegin hlt (tl.2.2.2.2.2.2.2 (mt_m t).length hl).2) (tl.2.2.2.2.2.2.2 ((mt_m t).length) hl).2 dX5_addMember_16 rfl (by decide) (by decide) (by decide) (by decide) (Nat.le_of_ble_eq_true rfl) rfl rfl (fun v2 h1 y3 => ?_) (fun _ _ hx => hx.elim)
  obtain ⟨rfl, hFb, b0, b1, b2, b3, b4, b5⟩ := y3
  show jv_V E 6 h1 0 0 (jv_Q E (fun y h' => y = none ∧ cF (fun c => c = a ∨ ∃ j, j < 6 ∧ c = N a j) h h' ∧ cv_T z N h' a (m_tM t (mt_m t ++ [m_mbN w n s ac st bd]))) jv_no 0 0) 19 [(0, .ref a), (1, .int w), (2, .int (nI K)), (3, .int ac), (4, .int (jv_bI st)), (5, .int bd)] []
  have hna : ¬ (a = N a (mt_m t).length) := fun e => ne_N tl hl e.symm
  have hs5 := (congrFun hFb.1 a).trans tl.1
  refine jv_aload_n (q := 20) G 0 dX5_addMember_19 rfl rfl rfl ?_
  refine jv_dup (q := 21) G dX5_addMember_20 rfl rfl ?_
  refine jv_getI (q := 24) G dX5_addMember_21 fl_X5_48 rfl hs5 ((hFb.i hna 9).trans (ct_9 hv)) rfl ?_
  refine jv_iconst (q := 25) (v := nI 1) G dX5_addMember_24 (by decide) rfl ?_
  refine jv_iaddN (q := 26) G dX5_addMember_25 rfl ?_
  refine jv_putI (q := 29) G dX5_addMember_26 fl_X5_48 rfl hs5 rfl ?_
  refine jv_aload_n (q := 30) G 0 dX5_addMember_29 rfl rfl rfl ?_
  refine jv_iload_n (q := 31) G 1 dX5_addMember_30 rfl rfl rfl ?_
  refine jv_iconst (q := 32) (v := nI 1) G dX5_addMember_31 (by decide) rfl ?_
  refine jv_icmp_ne (q := 35) (tgt := 39) G dX5_addMember_32 (by decide) rfl (fun c4 => ?_) (fun c4 => ?_)
  · refine jv_iconst (q := 40) (v := nI 0) G dX5_addMember_39 (by decide) rfl ?_
    refine jv_iload_n (q := 41) G 2 dX5_addMember_40 rfl rfl rfl ?_
    refine jv_callV (q := 44) (As := [.int (nI 0), .int (nI K)]) (rest := []) G Z ml_X5_72 (k_turnKey (a := a) (w := false) hlt hs5 ((hFb.l hna 10).trans (ct_10 hv)) ((hFb.l hna 11).trans (ct_11 hv)) hK) hs5 dX5_addMember_41 rfl (by decide) (by decide) (by decide) (by decide) (Nat.le_of_ble_eq_true rfl) rfl rfl (fun v6 h5 y7 => ?_) (fun _ _ hx => hx.elim)
    obtain ⟨rfl, hFk, hIk, h10, h11⟩ := y7
    show jv_V E 6 h5 0 0 (jv_Q E (fun y h' => y = none ∧ cF (fun c => c = a ∨ ∃ j, j < 6 ∧ c = N a j) h h' ∧ cv_T z N h' a (m_tM t (mt_m t ++ [m_mbN w n s ac st bd]))) jv_no 0 0) 44 [(0, .ref a), (1, .int w), (2, .int (nI K)), (3, .int ac), (4, .int (jv_bI st)), (5, .int bd)] []
    refine jv_vret G hr dX5_addMember_44 (Nat.le_of_ble_eq_true rfl) (Nat.le_of_ble_eq_true rfl) ?_
    have hF1 : cF (fun c => c = a ∨ ∃ j, j < 6 ∧ c = N a j) h h1 := hFb.mono (fun c e => Or.inr ⟨_, hl, e⟩)
    have hF2 : cF (fun c => c = a ∨ ∃ j, j < 6 ∧ c = N a j) h (jv_wI h1 a 9 (nI (((mt_m t).length) + 1))) := hF1.wI (Or.inl rfl) 9 _
    have hF3 := hF2.tr (hFk.mono (S' := (fun c => c = a ∨ ∃ j, j < 6 ∧ c = N a j)) (fun c e => Or.inl e))
    have hIa : ∀ k, k ≠ 9 → jv_I h5 a k = jv_I h a k := fun k hk => by rw [hIk, oI_o, if_neg hk]; exact hFb.i hna k
    have hbk : ∀ c, c ≠ a → ∀ j, jv_I h5 c j = jv_I h1 c j := fun c hc j => (hFk.i hc j).trans (by rw [jv_I_wI, if_neg (fun z => hc z.1)])
    have hM : cv_M h5 (N a (mt_m t).length) (m_mbN w n s ac st bd) := by
      have e := hbk _ (ne_N tl hl)
      have hw1 : decide (w = nI 1) = false := by exact decide_eq_false c4
      exact ⟨(e 0).trans b0, (e 1).trans b1, (e 2).trans b2, (e 3).trans (b3.trans (congrArg nI eK)), (e 4).trans (b4.trans hac), (e 5).trans b5⟩
    refine ⟨rfl, hF3, ?_⟩
    refine cv_T.of (fs := mt_f t) (ms := mt_m t ++ [m_mbN w n s ac st bd]) hv (fun k hk => hIa k (by omega)) ((hIa 7 (by decide)).trans (ct_7 hv)) ?_ ?_ ?_ (fun j y e => ?_) (fun j m e => ?_)
    · rw [hIk, oI_o, if_pos rfl, List.length_append, List.length_singleton]
    · rw [h10, ks_snoc]
      congr 2
      show _ = (if decide (w = nI 1) = false then _ else _)
      rw [show decide (w = nI 1) = false from by exact decide_eq_false c4]
      rw [eK]; rfl
    · rw [h11, ks_snoc]
      congr 2
      show _ = (if decide (w = nI 1) = true then _ else _)
      rw [show decide (w = nI 1) = false from by exact decide_eq_false c4]
      rw [eK]; rfl
    · refine (hF3.i (b := z 8 a) (fun z => ?_) j).trans (ct_f hv e)
      rcases z with z | ⟨i, hi, z⟩
      · exact ne_8 tl z
      · exact ne_N8 tl hi z.symm
    · by_cases hj : j = (mt_m t).length
      · subst hj
        rw [List.getElem?_append_right (Nat.le_refl _), Nat.sub_self] at e
        cases e
        exact hM
      · have h1 := jv_ltGet e
        rw [List.length_append, List.length_singleton] at h1
        rw [List.getElem?_append_left (by omega)] at e
        have e2 := hbk (N a j) (ne_N tl (by omega))
        have e3 := fun i => hFb.i (b := N a j) (fun z => hj (hN j (mt_m t).length (by omega) hl z)) i
        have r := ct_m hv e
        exact ⟨((e2 0).trans (e3 0)).trans r.1, ((e2 1).trans (e3 1)).trans r.2.1, ((e2 2).trans (e3 2)).trans r.2.2.1, ((e2 3).trans (e3 3)).trans r.2.2.2.1, ((e2 4).trans (e3 4)).trans r.2.2.2.2.1, ((e2 5).trans (e3 5)).trans r.2.2.2.2.2⟩
  · refine jv_iconst (q := 36) (v := nI 1) G dX5_addMember_35 (by decide) rfl ?_
    refine jv_goto (q := 40) G dX5_addMember_36 (by decide) ?_
    refine jv_iload_n (q := 41) G 2 dX5_addMember_40 rfl rfl rfl ?_
    refine jv_callV (q := 44) (As := [.int (nI 1), .int (nI K)]) (rest := []) G Z ml_X5_72 (k_turnKey (a := a) (w := true) hlt hs5 ((hFb.l hna 10).trans (ct_10 hv)) ((hFb.l hna 11).trans (ct_11 hv)) hK) hs5 dX5_addMember_41 rfl (by decide) (by decide) (by decide) (by decide) (Nat.le_of_ble_eq_true rfl) rfl rfl (fun v9 h8 y10 => ?_) (fun _ _ hx => hx.elim)
    obtain ⟨rfl, hFk, hIk, h10, h11⟩ := y10
    show jv_V E 6 h8 0 0 (jv_Q E (fun y h' => y = none ∧ cF (fun c => c = a ∨ ∃ j, j < 6 ∧ c = N a j) h h' ∧ cv_T z N h' a (m_tM t (mt_m t ++ [m_mbN w n s ac st bd]))) jv_no 0 0) 44 [(0, .ref a), (1, .int w), (2, .int (nI K)), (3, .int ac), (4, .int (jv_bI st)), (5, .int bd)] []
    refine jv_vret G hr dX5_addMember_44 (Nat.le_of_ble_eq_true rfl) (Nat.le_of_ble_eq_true rfl) ?_
    have hF1 : cF (fun c => c = a ∨ ∃ j, j < 6 ∧ c = N a j) h h1 := hFb.mono (fun c e => Or.inr ⟨_, hl, e⟩)
    have hF2 : cF (fun c => c = a ∨ ∃ j, j < 6 ∧ c = N a j) h (jv_wI h1 a 9 (nI (((mt_m t).length) + 1))) := hF1.wI (Or.inl rfl) 9 _
    have hF3 := hF2.tr (hFk.mono (S' := (fun c => c = a ∨ ∃ j, j < 6 ∧ c = N a j)) (fun c e => Or.inl e))
    have hIa : ∀ k, k ≠ 9 → jv_I h8 a k = jv_I h a k := fun k hk => by rw [hIk, oI_o, if_neg hk]; exact hFb.i hna k
    have hbk : ∀ c, c ≠ a → ∀ j, jv_I h8 c j = jv_I h1 c j := fun c hc j => (hFk.i hc j).trans (by rw [jv_I_wI, if_neg (fun z => hc z.1)])
    have hM : cv_M h8 (N a (mt_m t).length) (m_mbN w n s ac st bd) := by
      have e := hbk _ (ne_N tl hl)
      have hw1 : decide (w = nI 1) = true := by exact decide_eq_true c4
      exact ⟨(e 0).trans b0, (e 1).trans b1, (e 2).trans b2, (e 3).trans (b3.trans (congrArg nI eK)), (e 4).trans (b4.trans hac), (e 5).trans b5⟩
    refine ⟨rfl, hF3, ?_⟩
    refine cv_T.of (fs := mt_f t) (ms := mt_m t ++ [m_mbN w n s ac st bd]) hv (fun k hk => hIa k (by omega)) ((hIa 7 (by decide)).trans (ct_7 hv)) ?_ ?_ ?_ (fun j y e => ?_) (fun j m e => ?_)
    · rw [hIk, oI_o, if_pos rfl, List.length_append, List.length_singleton]
    · rw [h10, ks_snoc]
      congr 2
      show _ = (if decide (w = nI 1) = false then _ else _)
      rw [show decide (w = nI 1) = true from by exact decide_eq_true c4]
      rw [eK]; rfl
    · rw [h11, ks_snoc]
      congr 2
      show _ = (if decide (w = nI 1) = true then _ else _)
      rw [show decide (w = nI 1) = true from by exact decide_eq_true c4]
      rw [eK]; rfl
    · refine (hF3.i (b := z 8 a) (fun z => ?_) j).trans (ct_f hv e)
      rcases z with z | ⟨i, hi, z⟩
      · exact ne_8 tl z
      · exact ne_N8 tl hi z.symm
    · by_cases hj : j = (mt_m t).length
      · subst hj
        rw [List.getElem?_append_right (Nat.le_refl _), Nat.sub_self] at e
        cases e
        exact hM
      · have h1 := jv_ltGet e
        rw [List.length_append, List.length_singleton] at h1
        rw [List.getElem?_append_left (by omega)] at e
        have e2 := hbk (N a j) (ne_N tl (by omega))
        have e3 := fun i => hFb.i (b := N a j) (fun z => hj (hN j (mt_m t).length (by omega) hl z)) i
        have r := ct_m hv e
        exact ⟨((e2 0).trans (e3 0)).trans r.1, ((e2 1).trans (e3 1)).trans r.2.1, ((e2 2).trans (e3 2)).trans r.2.2.1, ((e2 3).trans (e3 3)).trans r.2.2.2.1, ((e2 4).trans (e3 4)).trans r.2.2.2.2.1, ((e2 5).trans (e3 5)).trans r.2.2.2.2.2⟩
/-- the members' rows behind a drop: the one at d behind the others -/
def dN (N : Nat → Nat → Nat) (a d n : Nat) : Nat → Nat → Nat := fun b j => if b = a then (if j < d then N a j else if j + 1 < n then N a (j + 1) else if j + 1 = n then N a d else N a j) else N b j
theorem dN_inj {N : Nat → Nat → Nat} {a d n : Nat} (hd : d < n) (hn : n ≤ 6) (hN : ∀ i j, i < 6 → j < 6 → N a i = N a j → i = j) : ∀ i j, i < 6 → j < 6 → dN N a d n a i = dN N a d n a j → i = j := by
  intro i j hi hj e
  unfold dN at e
  rw [if_pos rfl, if_pos rfl] at e
  split at e <;> split at e <;> (try split at e) <;> (try split at e) <;> (try split at e) <;> (try split at e) <;> (have := hN _ _ (by omega) (by omega) e; omega)
theorem ks_erase {w : Bool} : ∀ {l : List mM} {d : Nat} {m : mM}, l[d]? = some m → m_ks w (l.eraseIdx d) = m_ks w l ^^^ (if mm_w m = w then 2 ^ (4 * mm_n m + mm_s m) else 0)
  | [], d, m, h => by simp at h
  | y :: l, 0, m, h => by
    simp at h
    subst h
    show m_ks w l = ((if mm_w y = w then 2 ^ (4 * mm_n y + mm_s y) else 0) ^^^ m_ks w l) ^^^ _
    rw [Nat.xor_comm, ← Nat.xor_assoc, Nat.xor_self, Nat.zero_xor]
  | y :: l, d + 1, m, h => by
    have ih := ks_erase (w := w) (l := l) (d := d) (m := m) (by simpa using h)
    show (_ ^^^ m_ks w (l.eraseIdx d)) = _
    rw [ih, m_ks, Nat.xor_assoc]
set_option maxHeartbeats 4000000 in
set_option maxRecDepth 100000 in
theorem k_dm_loop {E : jv_E} {Q : State → Prop} {z : Nat → Nat → Nat} {N : Nat → Nat → Nat} {h : jv_H} {a : Nat} {t : mT} (tl : cl_t z N h a) (hv : cv_T z N h a t) (ho : mt_ok t) {w : Bool} {K d : Nat} {m : mM} (hK : K < 64) (hmd : (mt_m t)[d]? = some m) (hw : mm_w m = w) (hk4 : 4 * mm_n m + mm_s m = K) (huk : m_uk t) (G : jv_C E cX5_dropMember RX5 6) (hk : ∀ h2, cG (fun c => c = z 9 a) h h2 → (∀ j, j < 6 → jv_P h2 (z 9 a) j = some (if j < (mt_m t).length - 1 then (dN N a d (mt_m t).length) a j else N a j)) → jv_V E 6 h2 0 0 Q 79 [(4, .int (nI ((mt_m t).length - 1))), (0, .ref a), (1, .int (jv_bI w)), (2, .int (nI K)), (3, .ref (N a d))] []) : ∀ (n i k : Nat) (h1 : jv_H), i + n = (mt_m t).length → k = (if i ≤ d then i else i - 1) → cG (fun c => c = z 9 a) h h1 → (∀ j, j < 6 → jv_P h1 (z 9 a) j = some (if j < k then (dN N a d (mt_m t).length) a j else N a j)) → jv_V E 6 h1 0 0 Q 19 [(5, .int (nI i)), (4, .int (nI k)), (0, .ref a), (1, .int (jv_bI w)), (2, .int (nI K)), (3, .ref (N a d))] [] := by
  have hl6 := ho.2.2.2.2.2.1; have hdl := jv_ltGet hmd
  intro n
  induction n with
  | zero =>
    intro i k h1 hn hkk hF hP
    have hna : ¬ (a = z 9 a) := fun e => ne_9 tl e.symm
    refine jv_iload (q := 21) G 0 dX5_dropMember_19 rfl rfl ?_
    refine jv_aload_n (q := 22) G 2 dX5_dropMember_21 rfl rfl rfl ?_
    refine jv_getI (q := 25) G dX5_dropMember_22 fl_X5_48 rfl ((congrFun hF.1 a).trans tl.1) ((hF.i hna 9).trans (ct_9 hv)) rfl ?_
    refine jv_icmp_geN (q := 28) (tgt := 79) G dX5_dropMember_25 (by decide) rfl (by omega) (by omega) (fun c1 => ?_) (fun c1 => ?_)
    · refine jv_lo [1, 2, 3, 4, 5] (lo' := [(4, .int (nI k)), (0, .ref a), (1, .int (jv_bI w)), (2, .int (nI K)), (3, .ref (N a d))]) rfl ?_
      have ek : k = (mt_m t).length - 1 := by rw [hkk, if_neg (by omega)]; omega
      rw [ek] at hP ⊢
      exact hk _ hF hP
    · omega
  | succ n ih =>
    intro i k h1 hn hkk hF hP
    have hna : ¬ (a = z 9 a) := fun e => ne_9 tl e.symm
    obtain ⟨mi, hmi⟩ := jv_getLt (l := mt_m t) (k := i) (by omega)
    have hi6 : i < 6 := by omega
    have hki : k ≤ i := by rw [hkk]; split <;> omega
    have hPi : jv_P h1 (z 9 a) i = some (N a i) := by rw [hP i hi6, if_neg (by omega)]
    have hMi := hF.M (fun e => ne_N9 tl hi6 e) (ct_m hv hmi)
    have hOi := ho.2.2.2.2.2.2 mi (List.mem_of_getElem? hmi)
    have q1 := hOi.1; have q2 := hOi.2.1
    have hOm := ho.2.2.2.2.2.2 m (List.mem_of_getElem? hmd)
    have q3 := hOm.1; have q4 := hOm.2.1
    refine jv_iload (q := 21) G 0 dX5_dropMember_19 rfl rfl ?_
    refine jv_aload_n (q := 22) G 2 dX5_dropMember_21 rfl rfl rfl ?_
    refine jv_getI (q := 25) G dX5_dropMember_22 fl_X5_48 rfl ((congrFun hF.1 a).trans tl.1) ((hF.i hna 9).trans (ct_9 hv)) rfl ?_
    refine jv_icmp_geN (q := 28) (tgt := 79) G dX5_dropMember_25 (by decide) rfl (by omega) (by omega) (fun c1 => ?_) (fun c1 => ?_)
    · omega
    · refine jv_aload_n (q := 29) G 2 dX5_dropMember_28 rfl rfl rfl ?_
      refine jv_getQ (q := 32) G dX5_dropMember_29 fl_X5_17 rfl ((congrFun hF.1 a).trans tl.1) ((hF.p hna 8).trans tl.2.2.2.1) rfl ?_
      refine jv_iload (q := 34) G 0 dX5_dropMember_32 rfl rfl ?_
      refine jv_aaldQ (q := 35) G dX5_dropMember_34 ((congrFun hF.1 (z 9 a)).trans tl.2.2.2.2.1) rfl (by omega) (by decide) hPi rfl ?_
      refine jv_getI (q := 38) G dX5_dropMember_35 fl_X5_80 rfl ((congrFun hF.1 (N a i)).trans (tl.2.2.2.2.2.2.2 i hi6).2) hMi.2.2.2.1 rfl ?_
      refine jv_iload_n (q := 39) G 4 dX5_dropMember_38 rfl rfl rfl ?_
      refine jv_icmp_neN (q := 42) (tgt := 56) G dX5_dropMember_39 (by decide) rfl (by omega) (by omega) (fun c2 => ?_) (fun c2 => ?_)
      · refine jv_aload_n (q := 57) G 2 dX5_dropMember_56 rfl rfl rfl ?_
        refine jv_getQ (q := 60) G dX5_dropMember_57 fl_X5_17 rfl ((congrFun hF.1 a).trans tl.1) ((hF.p hna 8).trans tl.2.2.2.1) rfl ?_
        refine jv_iload (q := 62) G 1 dX5_dropMember_60 rfl rfl ?_
        refine jv_aload_n (q := 63) G 2 dX5_dropMember_62 rfl rfl rfl ?_
        refine jv_getQ (q := 66) G dX5_dropMember_63 fl_X5_17 rfl ((congrFun hF.1 a).trans tl.1) ((hF.p hna 8).trans tl.2.2.2.1) rfl ?_
        refine jv_iload (q := 68) G 0 dX5_dropMember_66 rfl rfl ?_
        refine jv_aaldQ (q := 69) G dX5_dropMember_68 ((congrFun hF.1 (z 9 a)).trans tl.2.2.2.2.1) rfl (by omega) (by decide) hPi rfl ?_
        refine jv_aast (q := 70) G (ci := 3) rfl dX5_dropMember_69 ((congrFun hF.1 (z 9 a)).trans tl.2.2.2.2.1) ((congrFun hF.1 (N a i)).trans (tl.2.2.2.2.2.2.2 i hi6).2) rfl (by omega) (by decide) rfl ?_
        refine jv_iinc (q := 73) (lo' := [(4, .int (nI (k + 1))), (5, .int (nI i)), (0, .ref a), (1, .int (jv_bI w)), (2, .int (nI K)), (3, .ref (N a d))]) (v := nI (k + 1)) G 1 dX5_dropMember_70 rfl (nI_1 k) (by decide) rfl rfl ?_
        refine jv_iinc (q := 76) (lo' := [(5, .int (nI (i + 1))), (4, .int (nI (k + 1))), (0, .ref a), (1, .int (jv_bI w)), (2, .int (nI K)), (3, .ref (N a d))]) (v := nI (i + 1)) G 1 dX5_dropMember_73 rfl (nI_1 i) (by decide) rfl rfl ?_
        refine jv_goto (q := 19) G dX5_dropMember_76 (by decide) ?_
        refine jv_lo [0, 1, 2, 3, 4, 5] (lo' := [(5, .int (nI (i + 1))), (4, .int (nI (k + 1))), (0, .ref a), (1, .int (jv_bI w)), (2, .int (nI K)), (3, .ref (N a d))]) rfl ?_
        have eid : i ≠ d := by
          intro e; subst e; cases hmi.symm.trans hmd
          first | exact c2 hw | exact c2 hk4 | omega
        refine ih (i + 1) (k + 1) _ (by omega) ?_ (hF.wP rfl _ _) (fun j hj => ?_)
        · rw [hkk]; split <;> split <;> omega
        · rw [jv_P_wP]
          by_cases ej : j = k
          · rw [if_pos ⟨rfl, ej⟩, if_pos (by omega), ej]
            congr 1
            unfold dN
            rw [if_pos rfl, hkk]
            by_cases hid : i ≤ d
            · rw [if_pos hid, if_pos (by omega)]
            · rw [if_neg hid, if_neg (by omega), if_pos (by omega)]
              congr 1; omega
          · rw [if_neg (fun e => ej e.2), hP j hj]
            congr 1
            by_cases hjk : j < k
            · rw [if_pos hjk, if_pos (by omega)]
            · rw [if_neg hjk, if_neg (by omega)]
      · refine jv_aload_n (q := 43) G 2 dX5_dropMember_42 rfl rfl rfl ?_
        refine jv_getQ (q := 46) G dX5_dropMember_43 fl_X5_17 rfl ((congrFun hF.1 a).trans tl.1) ((hF.p hna 8).trans tl.2.2.2.1) rfl ?_
        refine jv_iload (q := 48) G 0 dX5_dropMember_46 rfl rfl ?_
        refine jv_aaldQ (q := 49) G dX5_dropMember_48 ((congrFun hF.1 (z 9 a)).trans tl.2.2.2.2.1) rfl (by omega) (by decide) hPi rfl ?_
        refine jv_getZ (q := 52) G dX5_dropMember_49 fl_X5_83 rfl ((congrFun hF.1 (N a i)).trans (tl.2.2.2.2.2.2.2 i hi6).2) hMi.1 rfl ?_
        refine jv_iload_n (q := 53) G 3 dX5_dropMember_52 rfl rfl rfl ?_
        refine jv_icmp_eqB (q := 56) (tgt := 73) G dX5_dropMember_53 (by decide) rfl (fun c3 => ?_) (fun c3 => ?_)
        · refine jv_iinc (q := 76) (lo' := [(5, .int (nI (i + 1))), (4, .int (nI k)), (0, .ref a), (1, .int (jv_bI w)), (2, .int (nI K)), (3, .ref (N a d))]) (v := nI (i + 1)) G 0 dX5_dropMember_73 rfl (nI_1 i) (by decide) rfl rfl ?_
          refine jv_goto (q := 19) G dX5_dropMember_76 (by decide) ?_
          refine jv_lo [0, 1, 2, 3, 4, 5] (lo' := [(5, .int (nI (i + 1))), (4, .int (nI k)), (0, .ref a), (1, .int (jv_bI w)), (2, .int (nI K)), (3, .ref (N a d))]) rfl ?_
          have eid : i = d := by
            refine huk i d mi m hmi hmd ?_
            unfold kk
            rw [hw, ← c3]
            split <;> omega
          refine ih (i + 1) k _ (by omega) ?_ hF hP
          rw [hkk, if_pos (by omega), if_neg (by omega)]; omega
        · refine jv_aload_n (q := 57) G 2 dX5_dropMember_56 rfl rfl rfl ?_
          refine jv_getQ (q := 60) G dX5_dropMember_57 fl_X5_17 rfl ((congrFun hF.1 a).trans tl.1) ((hF.p hna 8).trans tl.2.2.2.1) rfl ?_
          refine jv_iload (q := 62) G 1 dX5_dropMember_60 rfl rfl ?_
          refine jv_aload_n (q := 63) G 2 dX5_dropMember_62 rfl rfl rfl ?_
          refine jv_getQ (q := 66) G dX5_dropMember_63 fl_X5_17 rfl ((congrFun hF.1 a).trans tl.1) ((hF.p hna 8).trans tl.2.2.2.1) rfl ?_
          refine jv_iload (q := 68) G 0 dX5_dropMember_66 rfl rfl ?_
          refine jv_aaldQ (q := 69) G dX5_dropMember_68 ((congrFun hF.1 (z 9 a)).trans tl.2.2.2.2.1) rfl (by omega) (by decide) hPi rfl ?_
          refine jv_aast (q := 70) G (ci := 3) rfl dX5_dropMember_69 ((congrFun hF.1 (z 9 a)).trans tl.2.2.2.2.1) ((congrFun hF.1 (N a i)).trans (tl.2.2.2.2.2.2.2 i hi6).2) rfl (by omega) (by decide) rfl ?_
          refine jv_iinc (q := 73) (lo' := [(4, .int (nI (k + 1))), (5, .int (nI i)), (0, .ref a), (1, .int (jv_bI w)), (2, .int (nI K)), (3, .ref (N a d))]) (v := nI (k + 1)) G 1 dX5_dropMember_70 rfl (nI_1 k) (by decide) rfl rfl ?_
          refine jv_iinc (q := 76) (lo' := [(5, .int (nI (i + 1))), (4, .int (nI (k + 1))), (0, .ref a), (1, .int (jv_bI w)), (2, .int (nI K)), (3, .ref (N a d))]) (v := nI (i + 1)) G 1 dX5_dropMember_73 rfl (nI_1 i) (by decide) rfl rfl ?_
          refine jv_goto (q := 19) G dX5_dropMember_76 (by decide) ?_
          refine jv_lo [0, 1, 2, 3, 4, 5] (lo' := [(5, .int (nI (i + 1))), (4, .int (nI (k + 1))), (0, .ref a), (1, .int (jv_bI w)), (2, .int (nI K)), (3, .ref (N a d))]) rfl ?_
          have eid : i ≠ d := by
            intro e; subst e; cases hmi.symm.trans hmd
            first | exact c3 hw | exact c2 hk4 | omega
          refine ih (i + 1) (k + 1) _ (by omega) ?_ (hF.wP rfl _ _) (fun j hj => ?_)
          · rw [hkk]; split <;> split <;> omega
          · rw [jv_P_wP]
            by_cases ej : j = k
            · rw [if_pos ⟨rfl, ej⟩, if_pos (by omega), ej]
              congr 1
              unfold dN
              rw [if_pos rfl, hkk]
              by_cases hid : i ≤ d
              · rw [if_pos hid, if_pos (by omega)]
              · rw [if_neg hid, if_neg (by omega), if_pos (by omega)]
                congr 1; omega
            · rw [if_neg (fun e => ej e.2), hP j hj]
              congr 1
              by_cases hjk : j < k
              · rw [if_pos hjk, if_pos (by omega)]
              · rw [if_neg hjk, if_neg (by omega)]
set_option maxHeartbeats 4000000 in
set_option maxRecDepth 100000 in
theorem k_dropMember {lA : Launch} (hlt : lA.stackTraces = false) {D : jv_D} {base : Nat} {z : Nat → Nat → Nat} {N : Nat → Nat → Nat} {h : jv_H} {a : Nat} {t : mT} (tl : cl_t z N h a) (hv : cv_T z N h a t) (ho : mt_ok t) {w : Bool} {ko : Option Nat} (hK0 : ∀ K, ko = some K → K < 64) (huk : m_uk t) : jv_Met lA D base yX5_dropMember (.code yX5_dropMember cX5_dropMember 6 (some .boolean)) 2 0 0 [.ref a, .int (jv_bI w), .int (jv_oN ko)] h (fun y h' => ∃ r : Bool, y = some (.int (jv_bI r)) ∧ (r = true → ∃ d, m_oc t w ko = some d ∧ cG (fun c => c = a ∨ c = z 9 a) h h' ∧ cl_t z (dN N a d (mt_m t).length) h' a ∧ cv_T z (dN N a d (mt_m t).length) h' a (m_tM t ((mt_m t).eraseIdx d))) ∧ (r = false → m_oc t w ko = none ∧ h' = h)) jv_no := by
  refine jv_ofV (lo := [(0, .ref a), (1, .int (jv_bI w)), (2, .int (jv_oN ko))]) hlt (by decide) (Nat.le_of_ble_eq_true rfl) rfl (fun E hEl hEd hEz Z G hr ht hnm => ?_)
  subst hEl; subst hEd; subst hEz
  have Yt := tl; have Vt := hv; have Ot := ho; have hl6 := ho.2.2.2.2.2.1
  refine jv_aload_n (q := 1) G 0 dX5_dropMember_0 rfl rfl rfl ?_
  refine jv_iload_n (q := 2) G 1 dX5_dropMember_1 rfl rfl rfl ?_
  refine jv_iload_n (q := 3) G 2 dX5_dropMember_2 rfl rfl rfl ?_
  refine jv_callV_R (q := 6) (h1 := h) (As := [.int (jv_bI w), .int (jv_oN ko)]) (rest := []) (ce' := 0) (sl' := 0) (r := ((m_oc t w ko).map (N a))) G Z ml_X5_76 (k_own (w := w) (ko := ko) hlt tl hv ho hK0) tl.1 dX5_dropMember_3 rfl (by decide) (by decide) (by decide) (by decide) (Nat.le_of_ble_eq_true rfl) rfl rfl rfl rfl ?_
  rcases Option.eq_none_or_eq_some (m_oc t w ko) with hj3 | ⟨j1, hj3⟩
  · refine jv_topR (y := none) (by rw [hj3]; rfl) ?_
    refine jv_astore_nR (q := 7) (lo' := [(3, va_rf none), (0, .ref a), (1, .int (jv_bI w)), (2, .int (jv_oN ko))]) (x := none) G dX5_dropMember_6 rfl (by decide) rfl rfl ?_
    refine jv_aload_nR (q := 8) G 0 dX5_dropMember_7 rfl rfl rfl ?_
    refine jv_ifnonnull (q := 11) (tgt := 13) (x := none) G dX5_dropMember_8 (by decide) rfl (fun a5 c4 => ?_) (fun c4 => ?_)
    · cases c4
    · refine jv_iconst (q := 12) (v := nI 0) G dX5_dropMember_11 (by decide) rfl ?_
      refine jv_topI (y := jv_bI false) rfl ?_
      refine jv_zret G hr dX5_dropMember_12 (Nat.le_of_ble_eq_true rfl) (Nat.le_of_ble_eq_true rfl) ?_
      exact ⟨false, rfl, fun e => (Bool.false_ne_true e).elim, fun _ => ⟨hj3, rfl⟩⟩
  · refine jv_topR (y := (some (N a j1))) (by rw [hj3]; rfl) ?_
    obtain ⟨m2, hm2, wm2, km2⟩ := oc_some hj3
    have lm2 := jv_ltGet hm2
    have Om2 := Ot.2.2.2.2.2.2 m2 (List.mem_of_getElem? hm2)
    have Vm2 := ct_m Vt hm2
    have j6m2 : j1 < 6 := by have := Ot.2.2.2.2.2.1; omega
    have bm2a := Om2.2.2.1
    refine jv_astore_n (q := 7) (lo' := [(3, .ref (N a j1)), (0, .ref a), (1, .int (jv_bI w)), (2, .int (jv_oN ko))]) G dX5_dropMember_6 rfl (by decide) rfl rfl ?_
    refine jv_aload_n (q := 8) G 0 dX5_dropMember_7 rfl rfl rfl ?_
    refine jv_ifnonnull (q := 11) (tgt := 13) (x := (some (N a j1))) G dX5_dropMember_8 (by decide) rfl (fun a7 c6 => ?_) (fun c6 => ?_)
    · refine jv_iconst (q := 14) (v := nI 0) G dX5_dropMember_13 (by decide) rfl ?_
      refine jv_istore (q := 16) (lo' := [(4, .int (nI 0)), (3, .ref (N a j1)), (0, .ref a), (1, .int (jv_bI w)), (2, .int (jv_oN ko))]) G dX5_dropMember_14 (by decide) rfl rfl ?_
      refine jv_iconst (q := 17) (v := nI 0) G dX5_dropMember_16 (by decide) rfl ?_
      refine jv_istore (q := 19) (lo' := [(5, .int (nI 0)), (4, .int (nI 0)), (3, .ref (N a j1)), (0, .ref a), (1, .int (jv_bI w)), (2, .int (jv_oN ko))]) G dX5_dropMember_17 (by decide) rfl rfl ?_
      obtain ⟨K, eK⟩ : ∃ K, ko = some K := ⟨_, km2.symm⟩
      subst eK
      have hK := hK0 K rfl
      have hk4 := Option.some.inj km2
      show jv_V E 6 h 0 0 (jv_Q E (fun y h' => ∃ r : Bool, y = some (.int (jv_bI r)) ∧ (r = true → ∃ d, m_oc t w (some K) = some d ∧ cG (fun c => c = a ∨ c = z 9 a) h h' ∧ cl_t z (dN N a d (mt_m t).length) h' a ∧ cv_T z (dN N a d (mt_m t).length) h' a (m_tM t ((mt_m t).eraseIdx d))) ∧ (r = false → m_oc t w (some K) = none ∧ h' = h)) jv_no 0 0) 19 [(5, .int (nI 0)), (4, .int (nI 0)), (3, .ref (N a j1)), (0, .ref a), (1, .int (jv_bI w)), (2, .int (nI K))] []
      refine jv_lo [0, 1, 3, 4, 5, 2] (lo' := [(5, .int (nI 0)), (4, .int (nI 0)), (0, .ref a), (1, .int (jv_bI w)), (2, .int (nI K)), (3, .ref (N a j1))]) rfl ?_
      refine k_dm_loop tl hv ho hK hm2 wm2 hk4 huk G (fun h2 hF2 hP2 => ?_) (mt_m t).length 0 0 _ (by omega) (by rw [if_pos (Nat.zero_le _)]) cG.rf (fun j hj => by rw [if_neg (by omega)]; exact (tl.2.2.2.2.2.2.2 j hj).1)
      have hna : ¬ (a = z 9 a) := fun e => ne_9 tl e.symm
      have hs5 := (congrFun hF2.1 a).trans tl.1
      refine jv_iload (q := 81) G 0 dX5_dropMember_79 rfl rfl ?_
      refine jv_aload_n (q := 82) G 1 dX5_dropMember_81 rfl rfl rfl ?_
      refine jv_getI (q := 85) G dX5_dropMember_82 fl_X5_48 rfl hs5 ((hF2.i hna 9).trans (ct_9 hv)) rfl ?_
      refine jv_icmp_geN (q := 88) (tgt := 96) G dX5_dropMember_85 (by decide) rfl (by omega) (by omega) (fun c8 => ?_) (fun c8 => ?_)
      · omega
      · refine jv_aload_n (q := 89) G 1 dX5_dropMember_88 rfl rfl rfl ?_
        refine jv_getQ (q := 92) G dX5_dropMember_89 fl_X5_17 rfl hs5 ((hF2.p hna 8).trans tl.2.2.2.1) rfl ?_
        refine jv_iload (q := 94) G 0 dX5_dropMember_92 rfl rfl ?_
        refine jv_aload_n (q := 95) G 4 dX5_dropMember_94 rfl rfl rfl ?_
        refine jv_aast (q := 96) G (ci := 3) rfl dX5_dropMember_95 ((congrFun hF2.1 (z 9 a)).trans tl.2.2.2.2.1) ((congrFun hF2.1 (N a j1)).trans (tl.2.2.2.2.2.2.2 j1 j6m2).2) rfl (by omega) (by decide) rfl ?_
        refine jv_aload_n (q := 97) G 1 dX5_dropMember_96 rfl rfl rfl ?_
        refine jv_iload (q := 99) G 0 dX5_dropMember_97 rfl rfl ?_
        refine jv_putI (q := 102) G dX5_dropMember_99 fl_X5_48 rfl hs5 rfl ?_
        refine jv_aload_n (q := 103) G 1 dX5_dropMember_102 rfl rfl rfl ?_
        refine jv_iload_n (q := 104) G 2 dX5_dropMember_103 rfl rfl rfl ?_
        refine jv_iload_n (q := 105) G 3 dX5_dropMember_104 rfl rfl rfl ?_
        refine jv_callV (q := 108) (As := [.int (jv_bI w), .int (nI K)]) (rest := []) G Z ml_X5_72 (k_turnKey (a := a) hlt hs5 ((hF2.l hna 10).trans (ct_10 hv)) ((hF2.l hna 11).trans (ct_11 hv)) hK) hs5 dX5_dropMember_105 rfl (by decide) (by decide) (by decide) (by decide) (Nat.le_of_ble_eq_true rfl) rfl rfl (fun v10 h9 y11 => ?_) (fun _ _ hx => hx.elim)
        obtain ⟨rfl, hFk, hIk, h10, h11⟩ := y11
        show jv_V E 6 h9 0 0 (jv_Q E (fun y h' => ∃ r : Bool, y = some (.int (jv_bI r)) ∧ (r = true → ∃ d, m_oc t w (some K) = some d ∧ cG (fun c => c = a ∨ c = z 9 a) h h' ∧ cl_t z (dN N a d (mt_m t).length) h' a ∧ cv_T z (dN N a d (mt_m t).length) h' a (m_tM t ((mt_m t).eraseIdx d))) ∧ (r = false → m_oc t w (some K) = none ∧ h' = h)) jv_no 0 0) 108 [(4, .int (nI ((mt_m t).length - 1))), (0, .ref a), (1, .int (jv_bI w)), (2, .int (nI K)), (3, .ref (N a j1))] []
        refine jv_iconst (q := 109) (v := nI 1) G dX5_dropMember_108 (by decide) rfl ?_
        refine jv_topI (y := jv_bI true) rfl ?_
        refine jv_zret G hr dX5_dropMember_109 (Nat.le_of_ble_eq_true rfl) (Nat.le_of_ble_eq_true rfl) ?_
        have hF3 : cG (fun c => c = a ∨ c = z 9 a) h (jv_wI (jv_wP h2 (z 9 a) ((mt_m t).length - 1) (some (N a j1))) a 9 (nI ((mt_m t).length - 1))) := ((hF2.mono (S' := (fun c => c = a ∨ c = z 9 a)) (fun c e => Or.inr e)).wP (Or.inr rfl) _ _).wI (Or.inl rfl) 9 _
        have hF4 := hF3.tr (hFk.mono (S' := (fun c => c = a ∨ c = z 9 a)) (fun c e => Or.inl e)).G
        have PAA : ∀ k, jv_P h9 a k = jv_P h a k := fun k => by
          rw [hFk.p a k]
          show jv_P (jv_wP h2 (z 9 a) _ _) a k = _
          rw [jv_P_wP, if_neg (fun z => hna z.1)]; exact hF2.p hna k
        have hIa : ∀ k, k ≠ 9 → jv_I h9 a k = jv_I h a k := fun k hk => by rw [hIk, oI_o, if_neg hk]; exact hF2.i hna k
        have hPj : ∀ i, i < 6 → jv_P h9 (z 9 a) i = some ((dN N a j1 (mt_m t).length) a i) := fun i hi => by
          rw [hFk.p (z 9 a) i]
          show jv_P (jv_wP h2 (z 9 a) ((mt_m t).length - 1) (some (N a j1))) (z 9 a) i = _
          rw [jv_P_wP]
          by_cases e : i = (mt_m t).length - 1
          · rw [if_pos ⟨rfl, e⟩]
            congr 1
            unfold dN
            rw [if_pos rfl, if_neg (by omega), if_neg (by omega), if_pos (by omega)]
          · rw [if_neg (fun z => e z.2), hP2 i hi]
            congr 1
            by_cases h1 : i < (mt_m t).length - 1
            · rw [if_pos h1]
            · rw [if_neg h1]
              unfold dN
              rw [if_pos rfl, if_neg (by omega), if_neg (by omega), if_neg (by omega)]
        have hnN : ∀ i, i < 6 → ∃ i', i' < 6 ∧ (dN N a j1 (mt_m t).length) a i = N a i' := fun i hi => by
          unfold dN
          rw [if_pos rfl]
          split
          · exact ⟨i, hi, rfl⟩
          · split
            · exact ⟨i + 1, by omega, rfl⟩
            · split
              · exact ⟨j1, j6m2, rfl⟩
              · exact ⟨i, hi, rfl⟩
        refine ⟨_, rfl, fun _ => ⟨j1, hj3, hF4, ?_, ?_⟩, fun e => (Bool.false_ne_true e.symm).elim⟩
        · refine ⟨(congrFun hF4.1 a).trans tl.1, ?_, (congrFun hF4.1 _).trans tl.2.2.1, ?_, (congrFun hF4.1 _).trans tl.2.2.2.2.1, ?_, (congrFun hF4.1 _).trans tl.2.2.2.2.2.2.1, fun i hi => ⟨hPj i hi, ?_⟩⟩
          · exact (PAA 6).trans tl.2.1
          · exact (PAA 8).trans tl.2.2.2.1
          · exact (PAA 12).trans tl.2.2.2.2.2.1
          · obtain ⟨i', hi', e⟩ := hnN i hi
            rw [e]
            exact (congrFun hF4.1 _).trans (tl.2.2.2.2.2.2.2 i' hi').2
        · refine cv_T.of (fs := mt_f t) (ms := (mt_m t).eraseIdx j1) hv (fun k hk => hIa k (by omega)) ((hIa 7 (by decide)).trans (ct_7 hv)) ?_ ?_ ?_ (fun i y e => ?_) (fun i m' e => ?_)
          · rw [hIk, oI_o, if_pos rfl, er_len lm2]
          · rw [h10, ks_erase hm2, wm2, hk4]
          · rw [h11, ks_erase hm2, wm2, hk4]
          · refine (hF4.i (b := z 8 a) (fun z => ?_) i).trans (ct_f hv e)
            rcases z with z | z
            · exact ne_8 tl z
            · exact ne_89 tl z
          · have h1 := jv_ltGet e
            rw [er_len lm2] at h1
            have hi6 : i < 6 := by omega
            have hne : ∀ i', i' < 6 → ¬ (fun c => c = a ∨ c = z 9 a) (N a i') := fun i' hi' z => by
              rcases z with z | z
              · exact ne_N tl hi' z
              · exact ne_N9 tl hi' z
            unfold dN
            rw [if_pos rfl]
            by_cases hid : i < j1
            · rw [if_pos hid]
              rw [er_lt hid] at e
              exact hF4.M (hne i hi6) (ct_m hv e)
            · rw [if_neg hid, if_pos (by omega)]
              rw [er_ge (by omega)] at e
              exact hF4.M (hne (i + 1) (by omega)) (ct_m hv e)
    · cases c6
