/-- an edition's addresses: whose they are -/
def el_o (z : Nat → Nat → Nat) (T : Nat → Nat) (N : Nat → Nat → Nat) (tO : Nat → Nat) (e : Nat) : Prop := tO (z 0 e) = z 0 e ∧ tO (z 1 e) = z 0 e ∧ tO (z 2 e) = z 0 e ∧ (∀ k, k < 10 → cl_o z N tO (T (10 * e + k))) ∧ ∀ k k', k < 10 → k' < 10 → T (10 * e + k) = T (10 * e + k') → k = k'
section EF
variable {z : Nat → Nat → Nat} {T : Nat → Nat} {N : Nat → Nat → Nat} {tO : Nat → Nat} {h h1 : jv_H} {e : Nat} {ts : List mT} {S : Nat → Prop}
theorem cG.vT (f : cG S h h1) {a : Nat} {t : mT} (ho : mt_ok t) (oa : cl_o z N tO a) (n : ∀ b, tO b = a → ¬ S b) (r : cv_T z N h a t) : cv_T z N h1 a t := by
  have na := n a oa.1
  refine ⟨(f.i na 0).trans r.1, (f.i na 1).trans r.2.1, (f.i na 2).trans r.2.2.1, (f.i na 3).trans r.2.2.2.1, (f.i na 4).trans r.2.2.2.2.1, (f.i na 5).trans r.2.2.2.2.2.1, (f.i na 7).trans r.2.2.2.2.2.2.1, (f.i na 9).trans r.2.2.2.2.2.2.2.1, (f.l na 10).trans r.2.2.2.2.2.2.2.2.1, (f.l na 11).trans r.2.2.2.2.2.2.2.2.2.1, fun j v e => (f.i (n _ oa.2.1) j).trans (ct_f r e), fun j m e => f.M (n _ (oa.2.2.2.2.1 j ?_)) (ct_m r e)⟩
  have := jv_ltGet e
  have := ho.2.2.2.2.2.1
  omega
theorem cG.t (f : cG S h h1) {a : Nat} (oa : cl_o z N tO a) (n : ∀ b, tO b = a → ¬ S b) (r : cl_t z N h a) : cl_t z N h1 a := by
  obtain ⟨r1, r2, r3, r4, r5, r6, r7, r8⟩ := r
  have na := n a oa.1
  exact ⟨(congrFun f.1 a).trans r1, (f.p na 6).trans r2, (congrFun f.1 _).trans r3, (f.p na 8).trans r4, (congrFun f.1 _).trans r5, (f.p na 12).trans r6, (congrFun f.1 _).trans r7, fun j hj => ⟨(f.p (n _ oa.2.2.1) j).trans (r8 j hj).1, (congrFun f.1 _).trans (r8 j hj).2⟩⟩
theorem cG.E (f : cG S h h1) (oe : el_o z T N tO e) (n0 : ∀ b, tO b = z 0 e → ¬ S b) (nT : ∀ k, k < 10 → ∀ b, tO b = T (10 * e + k) → ¬ S b) (r : cv_E z T N h e ts) : cv_E z T N h1 e ts := by
  obtain ⟨⟨r1, r2, r3, r4, r5, r6, r7⟩, r8, r9, r10, r11, r12⟩ := r
  have a0 := n0 _ oe.1
  have a1 := n0 _ oe.2.1
  have a2 := n0 _ oe.2.2.1
  refine ⟨⟨(congrFun f.1 _).trans r1, (f.p a0 2).trans r2, (congrFun f.1 _).trans r3, (f.p a0 4).trans r4, (congrFun f.1 _).trans r5, (f.i a0 0).trans r6, fun k hk => (f.p a1 k).trans (r7 k hk)⟩, fun k hk => f.t (oe.2.2.2.1 k hk) (nT k hk) (r8 k hk), (f.i a0 3).trans r9, r10, fun k t ht => ?_, fun n hn => (f.p a2 n).trans (r12 n hn)⟩
  have hk : k < 10 := by have := jv_ltGet ht; omega
  exact ⟨f.vT (r11 k t ht).2 (oe.2.2.2.1 k hk) (nT k hk) (r11 k t ht).1, (r11 k t ht).2⟩
theorem z0_T (r : cv_E z T N h e ts) {k : Nat} (hk : k < 10) : z 0 e ≠ T (10 * e + k) := fun q => by
  have h1 := r.1.1
  rw [q, (r.2.1 k hk).1] at h1
  cases h1
end EF
theorem m_at_snoc {ts : List mT} {t : mT} {n : Int32} : m_at (ts ++ [t]) n = (match m_at ts n with
    | some k => some k
    | none => if nI (mt_n t) = n then some ts.length else none) := by
  cases hm : m_at ts n with
  | some k =>
    obtain ⟨-, h2, h3, h4⟩ := sf_some hm
    have hk : k < ts.length := by omega
    refine sf_first (by simp; omega) ?_ (fun v hv => ?_)
    · rw [List.getElem?_append_left hk]; exact h3
    · rw [List.getElem?_append_left (by omega)]; exact h4 v (Nat.zero_le _) hv
  | none =>
    have h0 := sf_none.mp hm
    dsimp only
    by_cases he : nI (mt_n t) = n
    · rw [if_pos he]
      refine sf_first (by simp) ?_ (fun v hv => ?_)
      · rw [List.getElem?_append_right (Nat.le_refl _), Nat.sub_self]; simp [he]
      · rw [List.getElem?_append_left hv]; exact h0 v (Nat.zero_le _) (by omega)
    · rw [if_neg he]
      refine sf_none.mpr (fun v _ hv => ?_)
      rw [List.length_append, List.length_singleton] at hv
      by_cases hvl : v = ts.length
      · subst hvl
        rw [List.getElem?_append_right (Nat.le_refl _), Nat.sub_self]; simp [he]
      · rw [List.getElem?_append_left (by omega)]; exact h0 v (Nat.zero_le _) (by omega)
set_option maxHeartbeats 4000000 in
set_option maxRecDepth 100000 in
theorem k_addType {lA : Launch} (hlt : lA.stackTraces = false) {D : jv_D} {base : Nat} {z : Nat → Nat → Nat} {T : Nat → Nat} {N : Nat → Nat → Nat} {tO : Nat → Nat} {h : jv_H} {e : Nat} {ts : List mT} (hE : cv_E z T N h e ts) (oe : el_o z T N tO e) {n : Nat} {p s : Int32} {i ab pb : Bool} (hl : ts.length < 10) (hn : n < 16) (hno : m_at ts (nI n) = none) (ap : p.toNatClampNeg ≤ 3 ∧ p = nI p.toNatClampNeg) (as : s = jv_oN (m_oI s) ∧ True) (hmo : mt_ok (m_tyN (nI n) i (i || ab) p pb s)) : jv_Met lA D base yX2_addType (.code yX2_addType cX2_addType 8 none) 3 0 0 [.ref (z 0 e), .int (nI n), .int (jv_bI i), .int (jv_bI ab), .int p, .int (jv_bI pb), .int s] h (fun y h' => y = none ∧ cG (fun b => tO b = z 0 e ∨ ∃ k, k < 10 ∧ tO b = T (10 * e + k)) h h' ∧ cv_E z T N h' e (ts ++ [m_tyN (nI n) i (i || ab) p pb s]) ∧ jv_I h' (z 0 e) 1 = jv_I h (z 0 e) 1) jv_no := by
  refine jv_ofV (lo := [(0, .ref (z 0 e)), (1, .int (nI n)), (2, .int (jv_bI i)), (3, .int (jv_bI ab)), (4, .int p), (5, .int (jv_bI pb)), (6, .int s)]) hlt (by decide) (Nat.le_of_ble_eq_true rfl) rfl (fun E hEl hEd hEz Z G hr ht hnm => ?_)
  subst hEl; subst hEd; subst hEz
  have hl10 : ts.length < 10 := hl
  have Y := hE.2.1 ts.length hl10
  have oa := oe.2.2.2.1 ts.length hl10
  refine jv_aload_n (q := 1) G 0 dX2_addType_0 rfl rfl rfl ?_
  refine jv_getQ (q := 4) G dX2_addType_1 fl_X2_11 rfl hE.1.1 hE.1.2.1 rfl ?_
  refine jv_aload_n (q := 5) G 0 dX2_addType_4 rfl rfl rfl ?_
  refine jv_getI (q := 8) G dX2_addType_5 fl_X2_33 rfl hE.1.1 hE.2.2.1 rfl ?_
  refine jv_aaldQ (q := 9) G dX2_addType_8 hE.1.2.2.1 rfl (by omega) (by decide) (hE.1.2.2.2.2.2.2 ts.length hl10) rfl ?_
  refine jv_astore (q := 11) (lo' := [(7, .ref (T (10 * e + ts.length))), (0, .ref (z 0 e)), (1, .int (nI n)), (2, .int (jv_bI i)), (3, .int (jv_bI ab)), (4, .int p), (5, .int (jv_bI pb)), (6, .int s)]) G dX2_addType_9 (by decide) rfl rfl ?_
  refine jv_aload (q := 13) G 0 dX2_addType_11 rfl rfl ?_
  refine jv_iload_n (q := 14) G 2 dX2_addType_13 rfl rfl rfl ?_
  refine jv_iload_n (q := 15) G 3 dX2_addType_14 rfl rfl rfl ?_
  refine jv_iload_n (q := 16) G 4 dX2_addType_15 rfl rfl rfl ?_
  refine jv_iload (q := 18) G 5 dX2_addType_16 rfl rfl ?_
  refine jv_iload (q := 20) G 6 dX2_addType_18 rfl rfl ?_
  refine jv_iload (q := 22) G 7 dX2_addType_20 rfl rfl ?_
  refine jv_callV (q := 25) (As := [.int (nI n), .int (jv_bI i), .int (jv_bI ab), .int p, .int (jv_bI pb), .int s]) (rest := []) G Z ml_X2_36 (k_tBegin (z := z) (N := N) hlt Y.1 ⟨by rw [nI_clamp (by omega)]; omega, by rw [nI_clamp (by omega)]⟩ ap as) Y.1 dX2_addType_22 rfl (by decide) (by decide) (by decide) (by decide) (Nat.le_of_ble_eq_true rfl) rfl rfl (fun v2 h1 y3 => ?_) (fun _ _ hx => hx.elim)
  obtain ⟨rfl, hFb, hrr, h13, h14⟩ := y3
  show jv_V E 8 h1 0 0 (jv_Q E (fun y h' => y = none ∧ cG (fun b => tO b = z 0 e ∨ ∃ k, k < 10 ∧ tO b = T (10 * e + k)) h h' ∧ cv_E z T N h' e (ts ++ [m_tyN (nI n) i (i || ab) p pb s]) ∧ jv_I h' (z 0 e) 1 = jv_I h (z 0 e) 1) jv_no 0 0) 25 [(7, .ref (T (10 * e + ts.length))), (0, .ref (z 0 e)), (1, .int (nI n)), (2, .int (jv_bI i)), (3, .int (jv_bI ab)), (4, .int p), (5, .int (jv_bI pb)), (6, .int s)] []
  have hz0 : ¬ (z 0 e = T (10 * e + ts.length)) := z0_T hE hl10
  refine jv_aload_n (q := 26) G 1 dX2_addType_25 rfl rfl rfl ?_
  refine jv_getQ (q := 29) G dX2_addType_26 fl_X2_17 rfl ((congrFun hFb.1 (z 0 e)).trans hE.1.1) ((hFb.p (z 0 e) 4).trans hE.1.2.2.2.1) rfl ?_
  refine jv_iload_n (q := 30) G 2 dX2_addType_29 rfl rfl rfl ?_
  refine jv_aload (q := 32) G 0 dX2_addType_30 rfl rfl ?_
  refine jv_aast (q := 33) G (ci := 5) rfl dX2_addType_32 ((congrFun hFb.1 (z 2 e)).trans hE.1.2.2.2.2.1) ((congrFun hFb.1 (T (10 * e + ts.length))).trans Y.1) rfl (by omega) (by decide) rfl ?_
  refine jv_aload_n (q := 34) G 1 dX2_addType_33 rfl rfl rfl ?_
  refine jv_dup (q := 35) G dX2_addType_34 rfl rfl ?_
  refine jv_getI (q := 38) G dX2_addType_35 fl_X2_33 rfl ((congrFun hFb.1 (z 0 e)).trans hE.1.1) ((hFb.i hz0 3).trans hE.2.2.1) rfl ?_
  refine jv_iconst (q := 39) (v := nI 1) G dX2_addType_38 (by decide) rfl ?_
  refine jv_iaddN (q := 40) G dX2_addType_39 rfl ?_
  refine jv_putI (q := 43) G dX2_addType_40 fl_X2_33 rfl ((congrFun hFb.1 (z 0 e)).trans hE.1.1) rfl ?_
  refine jv_vret G hr dX2_addType_43 (Nat.le_of_ble_eq_true rfl) (Nat.le_of_ble_eq_true rfl) ?_
  have hi_ := 0
  have hG : cG (fun b => tO b = z 0 e ∨ ∃ k, k < 10 ∧ tO b = T (10 * e + k)) h (jv_wI (jv_wP h1 (z 2 e) n (some (T (10 * e + ts.length)))) (z 0 e) 3 (nI (ts.length + 1))) := ((hFb.G.mono (S' := (fun b => tO b = z 0 e ∨ ∃ k, k < 10 ∧ tO b = T (10 * e + k))) (fun b q => Or.inr ⟨ts.length, hl10, by rw [q]; exact oa.1⟩)).wP (Or.inl oe.2.2.1) _ _).wI (Or.inl oe.1) 3 _
  have f2 : cG (fun b => b = z 2 e ∨ b = z 0 e) h1 (jv_wI (jv_wP h1 (z 2 e) n (some (T (10 * e + ts.length)))) (z 0 e) 3 (nI (ts.length + 1))) := (cG.rf.wP (Or.inl rfl) _ _).wI (Or.inr rfl) 3 _
  have n2 : ∀ k, k < 10 → ∀ b, tO b = T (10 * e + k) → ¬ (fun b => b = z 2 e ∨ b = z 0 e) b := fun k hk b q1 q2 => by
    rcases q2 with q2 | q2
    · rw [q2, oe.2.2.1] at q1; exact z0_T hE hk q1
    · rw [q2, oe.1] at q1; exact z0_T hE hk q1
  have nS : ∀ k, k < 10 → k ≠ ts.length → ∀ b, tO b = T (10 * e + k) → ¬ (b = (T (10 * e + ts.length))) := fun k hk hkl b q1 q2 => by
    rw [q2, oa.1] at q1
    exact hkl (oe.2.2.2.2 _ _ hl10 hk q1).symm
  have hz20 : z 2 e ≠ z 0 e := fun q => by have h1 := hE.1.2.2.2.2.1; rw [q, hE.1.1] at h1; cases h1
  have hz21 : z 2 e ≠ z 1 e := fun q => by have h1 := hE.1.2.2.2.2.1; rw [q, hE.1.2.2.1] at h1; cases h1
  have hP : ∀ b j, ¬ (b = z 2 e ∧ j = n) → jv_P (jv_wI (jv_wP h1 (z 2 e) n (some (T (10 * e + ts.length)))) (z 0 e) 3 (nI (ts.length + 1))) b j = jv_P h b j := fun b j q => by
    show jv_P (jv_wP h1 (z 2 e) n _) b j = _
    rw [jv_P_wP, if_neg q]; exact hFb.p b j
  refine ⟨rfl, hG, ?_, by rw [oI_o, if_neg (by decide)]; exact hFb.i hz0 1⟩
  refine ⟨⟨(congrFun hG.1 _).trans hE.1.1, (hP _ _ (fun q => hz20 q.1.symm)).trans hE.1.2.1, (congrFun hG.1 _).trans hE.1.2.2.1, (hP _ _ (fun q => hz20 q.1.symm)).trans hE.1.2.2.2.1, (congrFun hG.1 _).trans hE.1.2.2.2.2.1, ?_, fun k hk => (hP _ _ (fun q => hz21 q.1.symm)).trans (hE.1.2.2.2.2.2.2 k hk)⟩, fun k hk => f2.t (oe.2.2.2.1 k hk) (n2 k hk) (hFb.t (hE.2.1 k hk)), ?_, ?_, fun k t ht => ?_, fun j hj => ?_⟩
  · rw [oI_o, if_neg (by decide)]
    show jv_I h1 (z 0 e) 0 = _
    rw [hFb.i hz0 0]; exact hE.1.2.2.2.2.2.1
  · rw [oI_o, if_pos rfl, List.length_append, List.length_singleton]
  · rw [List.length_append, List.length_singleton]; exact hl10
  · have hkl := jv_ltGet ht
    rw [List.length_append, List.length_singleton] at hkl
    have hk10 : k < 10 := by omega
    have ok := oe.2.2.2.1 k hk10
    by_cases hk : k = ts.length
    · subst hk
      rw [List.getElem?_append_right (Nat.le_refl _), Nat.sub_self] at ht
      cases ht
      exact ⟨f2.vT hmo ok (n2 _ hk10) hrr, hmo⟩
    · rw [List.getElem?_append_left (by omega)] at ht
      have hr0 := hE.2.2.2.2.1 k t ht
      exact ⟨f2.vT hr0.2 ok (n2 k hk10) (hFb.G.vT hr0.2 ok (nS k hk10 hk) hr0.1), hr0.2⟩
  · rw [m_at_snoc]
    show jv_P (jv_wP h1 (z 2 e) n (some (T (10 * e + ts.length)))) (z 2 e) j = _
    rw [jv_P_wP, show nI (mt_n (m_tyN (nI n) i (i || ab) p pb s)) = nI n from by show nI (nI n).toNatClampNeg = _; rw [nI_clamp (by omega)]]
    by_cases hjn : j = n
    · subst hjn
      rw [if_pos ⟨rfl, rfl⟩, hno]; dsimp only
      rw [if_pos rfl]; rfl
    · rw [if_neg (fun q => hjn q.2), hFb.p, hE.2.2.2.2.2 j hj]
      cases hm : m_at ts (nI j) with
      | some k => rfl
      | none => dsimp only; rw [if_neg (fun q => hjn ((nI_eq (by omega) (by omega)).mp q).symm)]
