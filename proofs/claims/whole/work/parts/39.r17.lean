/-! what a changing method answers: fault, answer, the state behind it -/
def pO (x : Nat) (q : Nat → Nat) (h : jv_H) (o : Nat × Int32 × mA) : Option Value → jv_H → Prop := fun v h' => v = some (.int o.2.1) ∧ jv_I h' x 0 = nI o.1 ∧ rf_R x q h' o.2.2 ∧ fr x q h h'
theorem pO.mk {x : Nat} {q : Nat → Nat} {h h' : jv_H} {o : Nat × Int32 × mA} {v : Option Value} {th : Nat} {r : Int32} {M' : mA} (e : o = (th, r, M')) (hv : v = some (.int r)) (ht : jv_I h' x 0 = nI th) (hR : rf_R x q h' M') (hf : fr x q h h') : pO x q h o v h' := by subst e; exact ⟨hv, ht, hR, hf⟩
theorem pO.no {x : Nat} {q : Nat → Nat} {h h' : jv_H} {o : Nat × Int32 × mA} {v : Option Value} {th : Nat} {M : mA} (hS : rf_S x q h) (e : o = (th, 0, M)) (hv : v = some (.int 0)) (ht : jv_I h' x 0 = nI th) (hR : rf_R x q h' M) (hf : rs x q h h') : pO x q h o v h' := pO.mk e hv ht hR (hf.FW hS).fr
def m_ed (M : mA) : Nat × Int32 × mA := if M.1.length = 8 then (1, 0, M) else (0, nI M.1.length, M.1 ++ [(false, [])], M.2)
def m_cy (M : mA) (e : Int32) : Nat × Int32 × mA := match m_ix1 M.1.length e with
  | none => (1, 0, M)
  | some k => if ma_s M k then if M.1.length = 8 then (3, 0, M) else (0, nI M.1.length, M.1 ++ [(false, ma_t M k)], M.2) else (2, 0, M)
theorem ma_add {M : mA} {E : mE} {e : Nat} : ma_t (M.1 ++ [E], M.2) e = (if e = M.1.length then E.2 else ma_t M e) ∧ ma_s (M.1 ++ [E], M.2) e = (if e = M.1.length then E.1 else ma_s M e) := by
  unfold ma_t ma_s
  dsimp only
  by_cases h : e = M.1.length
  · subst h; simp
  · rw [if_neg h, if_neg h]
    rcases Nat.lt_or_ge e M.1.length with h2 | h2
    · rw [List.getElem?_append_left h2]; exact ⟨rfl, rfl⟩
    · rw [List.getElem?_eq_none (l := M.1) (by omega), List.getElem?_eq_none (by simp; omega)]; exact ⟨rfl, rfl⟩
theorem ma_out {M : mA} {e : Nat} (h : M.1.length ≤ e) : ma_t M e = [] ∧ ma_s M e = false := by
  unfold ma_t ma_s
  rw [List.getElem?_eq_none (by omega)]; exact ⟨rfl, rfl⟩
/-- one edition more -/
theorem rf_R.add {x : Nat} {q : Nat → Nat} {h0 h : jv_H} {M : mA} (hR : rf_R x q h0 M) {ts : List mT} (he : M.1.length < 8) (a : FW (w_E M.1.length) (fun j => xcr j ∨ j = 1) x q h0 h) (h1 : jv_I h x 1 = nI (M.1.length + 1)) (hs : jv_I h (q 2) M.1.length = jv_bI false) (hE : rf_E q h M.1.length ts) : rf_R x q h (M.1 ++ [(false, ts)], M.2) := by
  obtain ⟨hS, ⟨g1, g2⟩, ⟨h3, h4⟩, h5, h6, h7⟩ := hR
  have hx : ∀ j, j = 21 → ¬ (xcr j ∨ j = 1) := by intro j e; subst e; unfold xcr; decide
  refine ⟨a.S hS, ⟨by simp; omega, by rw [h1]; simp⟩, ⟨h3, (a.ax 21 (hx 21 rfl)).trans h4⟩, fun e' he' => ?_, fun e' he' hs' => ?_, fun c C hC => ?_⟩
  · rw [ma_add.1, ma_add.2]
    by_cases hee : e' = M.1.length
    · subst hee
      rw [if_pos rfl, if_pos rfl]
      exact ⟨hs, hE⟩
    · rw [if_neg hee, if_neg hee]
      exact ⟨(a.aq 2 e' (w_E_ne hee (Or.inl ⟨Or.inl rfl, rfl⟩))).trans (h5 e' he').1, a.E (fun k j o => w_E_ne hee o) (h5 e' he').2⟩
  · rw [ma_add.2] at hs'
    rw [ma_add.1]
    by_cases hee : e' = M.1.length
    · rw [if_pos hee] at hs'; cases hs'
    · rw [if_neg hee] at hs' ⊢
      exact ⟨a.V (fun k j o => w_E_ne hee o) (h6 e' he' hs').1, (h6 e' he' hs').2⟩
  · have hC : M.2[c]? = some C := hC
    have hc := jv_ltGet hC
    obtain ⟨k1, k2⟩ := h7 c C hC
    have k3 := k2.1
    refine ⟨a.C k2.2.2.2.2.1 (fun k j o => w_E_C (by omega) o) k1, ?_, ?_, k2.2.2⟩
    · show mc_e C < (M.1 ++ [(false, ts)]).length
      simp; omega
    · rw [ma_add.2, if_neg (by omega)]
      exact k2.2.1
set_option maxHeartbeats 4000000 in
set_option maxRecDepth 100000 in
theorem r_edition {lA : Launch} (hlt : lA.stackTraces = false) {D : jv_D} {base : Nat} {x : Nat} {q : Nat → Nat} {h : jv_H} {M : mA}  (hR : rf_R x q h M) : jv_Met lA D base yX8_edition (.code yX8_edition cX8_edition 1 (some .int)) 1 0 0 [.ref x] h (pO x q h (m_ed M)) jv_no := by
  refine jv_ofV (lo := [(0, .ref x)]) hlt (by decide) (Nat.le_of_ble_eq_true rfl) rfl (fun E hEl hEd hEz Z G hr ht hnm => ?_)
  subst hEl; subst hEd; subst hEz
  obtain ⟨hS, ⟨hn8, hn⟩, ⟨hm12, hm⟩, hD, hV, hCs⟩ := id hR
  have hS0 := hS
  have hrs : rs x q h h := rs.rf
  refine jv_aload_n (q := 1) G 0 dX8_edition_0 rfl rfl rfl ?_
  refine jv_aload_n (q := 2) G 0 dX8_edition_1 rfl rfl rfl ?_
  refine jv_getI (q := 5) G dX8_edition_2 fl_X8_126 rfl hS.1 hn rfl ?_
  refine jv_bipush (q := 7) (v := nI 8) G dX8_edition_5 (by decide) rfl ?_
  refine jv_icmp_neN (q := 10) (tgt := 14) G dX8_edition_7 (by decide) rfl (by omega) (by omega) (fun c1 => ?_) (fun c1 => ?_)
  · refine jv_iconst (q := 15) (v := nI 0) G dX8_edition_14 (by decide) rfl ?_
    refine jv_putI (q := 18) G dX8_edition_15 fl_X8_122 rfl hS.1 rfl ?_
    have hr1 : rs x q h (jv_wI h x 0 (nI 0)) := rs.rf.wI (nI 0) (Or.inl ⟨rfl, Or.inl rfl⟩)
    have hth : jv_I (jv_wI h x 0 (nI 0)) x 0 = (nI 0) := jv_I_self _ _ _ _
    have hR := hr1.R hR
    have hrs := hrs.tr hr1
    generalize jv_wI h x 0 (nI 0) = h2 at hth hR hrs ⊢
    obtain ⟨hS, ⟨hn8, hn⟩, ⟨hm12, hm⟩, hD, hV, hCs⟩ := id hR
    have hsc : sc x q h2 h2 := sc.rf
    refine jv_aload_n (q := 19) G 0 dX8_edition_18 rfl rfl rfl ?_
    refine jv_getI (q := 22) G dX8_edition_19 fl_X8_122 rfl hS.1 hth rfl ?_
    refine jv_if_leN (q := 25) (tgt := 27) G dX8_edition_22 (by decide) rfl (by omega) (fun c3 => ?_) (fun c3 => ?_)
    · refine jv_aload_n (q := 28) G 0 dX8_edition_27 rfl rfl rfl ?_
      refine jv_dup (q := 29) G dX8_edition_28 rfl rfl ?_
      refine jv_getI (q := 32) G dX8_edition_29 fl_X8_126 rfl hS.1 hn rfl ?_
      refine jv_iconst (q := 33) (v := nI 1) G dX8_edition_32 (by decide) rfl ?_
      refine jv_iaddN (q := 34) G dX8_edition_33 rfl ?_
      refine jv_putI (q := 37) G dX8_edition_34 fl_X8_126 rfl hS.1 rfl ?_
      refine jv_aload_n (q := 38) G 0 dX8_edition_37 rfl rfl rfl ?_
      refine jv_getI (q := 41) G dX8_edition_38 fl_X8_126 rfl hS.1 (jv_I_self _ _ _ _) rfl ?_
      refine jv_iconst (q := 42) (v := nI 1) G dX8_edition_41 (by decide) rfl ?_
      refine jv_isubN (q := 43) G dX8_edition_42 (by omega) rfl ?_
      refine jv_iret G hr dX8_edition_43 (Nat.le_of_ble_eq_true rfl) (Nat.le_of_ble_eq_true rfl) ?_
      have hFW := (show FW (w_E M.1.length) (fun j => xcr j ∨ j = 1) x q h2 (jv_wI h2 x 1 (nI (M.1.length + 1))) from (FW.rf.wx hS (Or.inr rfl) _))
      refine pO.mk (M' := (M.1 ++ [(false, [])], M.2)) (th := 0) ?_ rfl (((xI_x _ _ _).trans (if_neg (by decide))).trans hth) ?_ ((hrs.FW hS0).fr.tr hFW.fr)
      · unfold m_ed
        rw [if_neg (by omega)]; exact congrArg (fun z => (0, nI z, _)) (by omega)
      · refine rf_R.add hR (by omega) hFW ((xI_x _ _ _).trans (if_pos rfl)) ?_ ?_
        · rw [(qI_x hS (by decide) rfl _ _ _), (hD _ (by omega)).1, (ma_out (Nat.le_refl _)).2]
        · have h8 := (hD M.1.length (by omega)).2
          rw [(ma_out (Nat.le_refl _)).1] at h8
          exact ⟨((qI_x hS (by decide) rfl _ _ _)).trans h8.1, by decide, fun k t ht => by simp at ht⟩
    · omega
  · refine jv_iconst (q := 11) (v := nI 1) G dX8_edition_10 (by decide) rfl ?_
    refine jv_goto (q := 15) G dX8_edition_11 (by decide) ?_
    refine jv_putI (q := 18) G dX8_edition_15 fl_X8_122 rfl hS.1 rfl ?_
    have hr1 : rs x q h (jv_wI h x 0 (nI 1)) := rs.rf.wI (nI 1) (Or.inl ⟨rfl, Or.inl rfl⟩)
    have hth : jv_I (jv_wI h x 0 (nI 1)) x 0 = (nI 1) := jv_I_self _ _ _ _
    have hR := hr1.R hR
    have hrs := hrs.tr hr1
    generalize jv_wI h x 0 (nI 1) = h4 at hth hR hrs ⊢
    obtain ⟨hS, ⟨hn8, hn⟩, ⟨hm12, hm⟩, hD, hV, hCs⟩ := id hR
    have hsc : sc x q h4 h4 := sc.rf
    refine jv_aload_n (q := 19) G 0 dX8_edition_18 rfl rfl rfl ?_
    refine jv_getI (q := 22) G dX8_edition_19 fl_X8_122 rfl hS.1 hth rfl ?_
    refine jv_if_leN (q := 25) (tgt := 27) G dX8_edition_22 (by decide) rfl (by omega) (fun c5 => ?_) (fun c5 => ?_)
    · omega
    · refine jv_iconst (q := 26) (v := nI 0) G dX8_edition_25 (by decide) rfl ?_
      refine jv_iret G hr dX8_edition_26 (Nat.le_of_ble_eq_true rfl) (Nat.le_of_ble_eq_true rfl) ?_
      refine pO.no (M := M) hS0 ?_ rfl hth hR hrs
      unfold m_ed; simp only [*, if_true, if_false, Bool.false_eq_true, reduceIte]
