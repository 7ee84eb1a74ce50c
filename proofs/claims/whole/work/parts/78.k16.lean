theorem w3 (h : jv_H) (a k b j : Nat) (v v' : Int32) (p : Option Nat) : jv_wI (jv_wP (jv_wI h a k v) b j p) a k v' = jv_wI (jv_wP h b j p) a k v' := by
  unfold jv_wI jv_wP
  congr 2
  funext x y
  unfold jv_u
  dsimp only
  by_cases hc : x = a ∧ y = k
  · rw [if_pos hc, if_pos hc]
  · rw [if_neg hc, if_neg hc, if_neg hc]
theorem cF.w2 {S : Nat → Prop} {h h1 : jv_H} (f : cF S h h1) (a k : Nat) (v : Int32) : cF S (jv_wI h a k v) (jv_wI h1 a k v) := ⟨f.1, f.2.1, fun b n => ⟨fun j => by
  rw [jv_I_wI, jv_I_wI]
  by_cases hc : b = a ∧ j = k
  · rw [if_pos hc, if_pos hc]
  · rw [if_neg hc, if_neg hc]; exact f.i n j, fun j => f.l n j⟩⟩
theorem cv_E.snocT {z : Nat → Nat → Nat} {T : Nat → Nat} {N : Nat → Nat → Nat} {tO : Nat → Nat} {h hb : jv_H} {e : Nat} {ts : List mT} {t : mT} (hE : cv_E z T N h e ts) (oe : el_o z T N tO e) (hl10 : ts.length < 10) (hFb : cF (fun b => tO b = T (10 * e + ts.length)) h hb) (hrr : cv_T z N hb (T (10 * e + ts.length)) t) (hmo : mt_ok t) (hno : m_at ts (nI (mt_n t)) = none) : cv_E z T N (jv_wI (jv_wP hb (z 2 e) (mt_n t) (some (T (10 * e + ts.length)))) (z 0 e) 3 (nI (ts.length + 1))) e (ts ++ [t]) := by
  have oa := oe.2.2.2.1 ts.length hl10
  have hz0 : ¬ (tO (z 0 e) = T (10 * e + ts.length)) := by rw [oe.1]; exact z0_T hE hl10
  have f2 : cG (fun b => b = z 2 e ∨ b = z 0 e) hb (jv_wI (jv_wP hb (z 2 e) (mt_n t) (some (T (10 * e + ts.length)))) (z 0 e) 3 (nI (ts.length + 1))) := (cG.rf.wP (Or.inl rfl) _ _).wI (Or.inr rfl) 3 _
  have n2 : ∀ k, k < 10 → ∀ b, tO b = T (10 * e + k) → ¬ (b = z 2 e ∨ b = z 0 e) := fun k hk b q1 q2 => by
    rcases q2 with q2 | q2
    · rw [q2, oe.2.2.1] at q1; exact z0_T hE hk q1
    · rw [q2, oe.1] at q1; exact z0_T hE hk q1
  have nS : ∀ k, k < 10 → k ≠ ts.length → ∀ b, tO b = T (10 * e + k) → ¬ (tO b = T (10 * e + ts.length)) := fun k hk hkl b q1 q2 => hkl (oe.2.2.2.2 _ _ hl10 hk (q2.symm.trans q1)).symm
  have hz20 : z 2 e ≠ z 0 e := fun q => by have h1 := hE.1.2.2.2.2.1; rw [q, hE.1.1] at h1; cases h1
  have hz21 : z 2 e ≠ z 1 e := fun q => by have h1 := hE.1.2.2.2.2.1; rw [q, hE.1.2.2.1] at h1; cases h1
  have hP : ∀ b j, ¬ (b = z 2 e ∧ j = mt_n t) → jv_P (jv_wI (jv_wP hb (z 2 e) (mt_n t) (some (T (10 * e + ts.length)))) (z 0 e) 3 (nI (ts.length + 1))) b j = jv_P h b j := fun b j q => by
    rw [jv_P_wI, jv_P_wP, if_neg q]; exact hFb.p b j
  have sh : ∀ b, jv_sh (jv_wI (jv_wP hb (z 2 e) (mt_n t) (some (T (10 * e + ts.length)))) (z 0 e) 3 (nI (ts.length + 1))) b = jv_sh h b := fun b => congrFun hFb.1 b
  have h16 := hmo.1
  refine ⟨⟨(sh _).trans hE.1.1, (hP _ _ (fun q => hz20 q.1.symm)).trans hE.1.2.1, (sh _).trans hE.1.2.2.1, (hP _ _ (fun q => hz20 q.1.symm)).trans hE.1.2.2.2.1, (sh _).trans hE.1.2.2.2.2.1, ?_, fun k hk => (hP _ _ (fun q => hz21 q.1.symm)).trans (hE.1.2.2.2.2.2.2 k hk)⟩, fun k hk => f2.t (oe.2.2.2.1 k hk) (n2 k hk) (hFb.t (hE.2.1 k hk)), ?_, ?_, fun k t' ht => ?_, fun j hj => ?_⟩
  · rw [oI_o, if_neg (by decide), jv_I_wP, hFb.i hz0 0]; exact hE.1.2.2.2.2.2.1
  · rw [oI_o, if_pos rfl, List.length_append, List.length_singleton]
  · rw [List.length_append, List.length_singleton]; exact hl10
  · have hkl := jv_ltGet ht
    rw [List.length_append, List.length_singleton] at hkl
    have hk10 : k < 10 := by omega
    have ok := oe.2.2.2.1 k hk10
    by_cases hk : k = ts.length
    · subst hk
      rw [List.getElem?_append_right (Nat.le_refl _), Nat.sub_self] at ht
      cases ht
      exact ⟨f2.vT hmo ok (n2 _ hk10) hrr, hmo⟩
    · rw [List.getElem?_append_left (by omega)] at ht
      have hr0 := hE.2.2.2.2.1 k t' ht
      exact ⟨f2.vT hr0.2 ok (n2 k hk10) (hFb.G.vT hr0.2 ok (nS k hk10 hk) hr0.1), hr0.2⟩
  · rw [m_at_snoc, jv_P_wI, jv_P_wP]
    by_cases hjn : j = mt_n t
    · subst hjn
      rw [if_pos ⟨rfl, rfl⟩, hno]; dsimp only
      rw [if_pos rfl]; rfl
    · rw [if_neg (fun q => hjn q.2), hFb.p, hE.2.2.2.2.2 j hj]
      cases hm : m_at ts (nI j) with
      | some k => rfl
      | none => dsimp only; rw [if_neg (fun q => hjn ((nI_eq (by omega) (by omega)).mp q).symm)]
set_option maxHeartbeats 4000000 in
set_option maxRecDepth 100000 in
theorem k_ta_loop {E : jv_E} {Q : State → Prop} {z : Nat → Nat → Nat} {T : Nat → Nat} {N : Nat → Nat → Nat} {tO : Nat → Nat} {h : jv_H} {e : Nat} {ts : List mT} (hE : cv_E z T N h e []) (oe : el_o z T N tO e) {f : Nat} (hf : cv_E z T N h f ts) (of : el_o z T N tO f) (hx : ∀ k k', k < 10 → k' < 10 → T (10 * e + k) ≠ T (10 * f + k')) (hx0 : z 0 e ≠ z 0 f) (hx1 : ∀ k, k < 10 → z 0 e ≠ T (10 * f + k)) (hx2 : ∀ k, k < 10 → T (10 * e + k) ≠ z 0 f) (hia : ∀ t ∈ ts, mt_i t = true → mt_a t = true) (hu : m_uq ts) (hlt : (jv_l E).stackTraces = false) (G : jv_C E cX2_takeAll RX2 3) (Z : jv_rm E = jv_room 4 0 0) (hk : ∀ h2, cG (fun b => tO b = z 0 e ∨ ∃ k, k < 10 ∧ tO b = T (10 * e + k)) h h2 → cv_E z T N (jv_wI h2 (z 0 e) 3 (nI ts.length)) e (ts.take ts.length) → jv_I h2 (z 0 e) 1 = jv_I h (z 0 e) 1 → jv_V E 3 h2 0 0 Q 51 [(0, .ref (z 0 e)), (1, .ref (z 0 f))] []) : ∀ (n i : Nat) (h1 : jv_H), i + n = ts.length → cG (fun b => tO b = z 0 e ∨ ∃ k, k < 10 ∧ tO b = T (10 * e + k)) h h1 → cv_E z T N (jv_wI h1 (z 0 e) 3 (nI i)) e (ts.take i) → jv_I h1 (z 0 e) 1 = jv_I h (z 0 e) 1 → jv_V E 3 h1 0 0 Q 2 [(2, .int (nI i)), (0, .ref (z 0 e)), (1, .ref (z 0 f))] [] := by
  intro n
  induction n with
  | zero =>
    intro i h1 hn hG hV hI1
    have hl10 := hf.2.2.2.1
    have hf1 : cv_E z T N h1 f ts := hG.E of (fun b q1 q2 => by
        rcases q2 with q2 | ⟨k, hk, q2⟩
        · exact hx0 (q2.symm.trans q1)
        · exact hx2 k hk (q2.symm.trans q1)) (fun k hk b q1 q2 => by
        rcases q2 with q2 | ⟨k', hk', q2⟩
        · exact hx1 k hk (q2.symm.trans q1)
        · exact hx k' k hk' hk (q2.symm.trans q1)) hf
    have tk : (ts.take i).length = i := by rw [List.length_take]; omega
    refine jv_iload_n (q := 3) G 0 dX2_takeAll_2 rfl rfl rfl ?_
    refine jv_aload_n (q := 4) G 2 dX2_takeAll_3 rfl rfl rfl ?_
    refine jv_getI (q := 7) G dX2_takeAll_4 fl_X2_33 rfl hf1.1.1 hf1.2.2.1 rfl ?_
    refine jv_icmp_geN (q := 10) (tgt := 51) G dX2_takeAll_7 (by decide) rfl (by omega) (by omega) (fun c1 => ?_) (fun c1 => ?_)
    · refine jv_lo [1, 2] (lo' := [(0, .ref (z 0 e)), (1, .ref (z 0 f))]) rfl ?_
      rw [show i = ts.length by omega] at hV
      exact hk _ hG hV hI1
    · omega
  | succ n ih =>
    intro i h1 hn hG hV hI1
    have hl10 := hf.2.2.2.1
    have hf1 : cv_E z T N h1 f ts := hG.E of (fun b q1 q2 => by
        rcases q2 with q2 | ⟨k, hk, q2⟩
        · exact hx0 (q2.symm.trans q1)
        · exact hx2 k hk (q2.symm.trans q1)) (fun k hk b q1 q2 => by
        rcases q2 with q2 | ⟨k', hk', q2⟩
        · exact hx1 k hk (q2.symm.trans q1)
        · exact hx k' k hk' hk (q2.symm.trans q1)) hf
    have tk : (ts.take i).length = i := by rw [List.length_take]; omega
    have hi10 : i < 10 := by omega
    obtain ⟨t, ht⟩ := jv_getLt (l := ts) (k := i) (by omega)
    have hr0 := hf1.2.2.2.2.1 i t ht
    have tlx : cl_t z N h1 (T (10 * e + i)) := hV.2.1 i hi10
    have oxi := oe.2.2.2.1 i hi10
    refine jv_iload_n (q := 3) G 0 dX2_takeAll_2 rfl rfl rfl ?_
    refine jv_aload_n (q := 4) G 2 dX2_takeAll_3 rfl rfl rfl ?_
    refine jv_getI (q := 7) G dX2_takeAll_4 fl_X2_33 rfl hf1.1.1 hf1.2.2.1 rfl ?_
    refine jv_icmp_geN (q := 10) (tgt := 51) G dX2_takeAll_7 (by decide) rfl (by omega) (by omega) (fun c1 => ?_) (fun c1 => ?_)
    · omega
    · refine jv_aload_n (q := 11) G 1 dX2_takeAll_10 rfl rfl rfl ?_
      refine jv_getQ (q := 14) G dX2_takeAll_11 fl_X2_11 rfl hV.1.1 hV.1.2.1 rfl ?_
      refine jv_iload_n (q := 15) G 0 dX2_takeAll_14 rfl rfl rfl ?_
      refine jv_aaldQ (q := 16) G dX2_takeAll_15 hV.1.2.2.1 rfl (by omega) (by decide) (hV.1.2.2.2.2.2.2 i hi10) rfl ?_
      refine jv_aload_n (q := 17) G 2 dX2_takeAll_16 rfl rfl rfl ?_
      refine jv_getQ (q := 20) G dX2_takeAll_17 fl_X2_11 rfl hf1.1.1 hf1.1.2.1 rfl ?_
      refine jv_iload_n (q := 21) G 0 dX2_takeAll_20 rfl rfl rfl ?_
      refine jv_aaldQ (q := 22) G dX2_takeAll_21 hf1.1.2.2.1 rfl (by omega) (by decide) (hf1.1.2.2.2.2.2.2 i hi10) rfl ?_
      refine jv_callV (q := 25) (As := [.ref (T (10 * f + i))]) (rest := []) G Z ml_X2_43 (k_tTake (tO := tO) hlt tlx (hf1.2.1 i hi10) oxi (of.2.2.2.1 i hi10) (hx i i hi10 hi10) hr0.1 hr0.2 (hia t (List.mem_of_getElem? ht))) (hV.2.1 i hi10).1 dX2_takeAll_22 rfl (by decide) (by decide) (by decide) (by decide) (Nat.le_of_ble_eq_true rfl) rfl rfl (fun v3 h2 y4 => ?_) (fun _ _ hx => hx.elim)
      obtain ⟨rfl, hFt, hTt⟩ := y4
      show jv_V E 3 h2 0 0 Q 25 [(2, .int (nI i)), (0, .ref (z 0 e)), (1, .ref (z 0 f))] []
      have h16 := hr0.2.1
      refine jv_aload_n (q := 26) G 1 dX2_takeAll_25 rfl rfl rfl ?_
      refine jv_getQ (q := 29) G dX2_takeAll_26 fl_X2_17 rfl ((congrFun hFt.1 (z 0 e)).trans hV.1.1) ((hFt.p (z 0 e) 4).trans hV.1.2.2.2.1) rfl ?_
      refine jv_aload_n (q := 30) G 1 dX2_takeAll_29 rfl rfl rfl ?_
      refine jv_getQ (q := 33) G dX2_takeAll_30 fl_X2_11 rfl ((congrFun hFt.1 (z 0 e)).trans hV.1.1) ((hFt.p (z 0 e) 2).trans hV.1.2.1) rfl ?_
      refine jv_iload_n (q := 34) G 0 dX2_takeAll_33 rfl rfl rfl ?_
      refine jv_aaldQ (q := 35) G dX2_takeAll_34 ((congrFun hFt.1 (z 1 e)).trans hV.1.2.2.1) rfl (by omega) (by decide) ((hFt.p (z 1 e) i).trans (hV.1.2.2.2.2.2.2 i hi10)) rfl ?_
      refine jv_getI (q := 38) G dX2_takeAll_35 fl_X2_40 rfl ((congrFun hFt.1 _).trans tlx.1) (ct_0 hTt) rfl ?_
      refine jv_aload_n (q := 39) G 1 dX2_takeAll_38 rfl rfl rfl ?_
      refine jv_getQ (q := 42) G dX2_takeAll_39 fl_X2_11 rfl ((congrFun hFt.1 (z 0 e)).trans hV.1.1) ((hFt.p (z 0 e) 2).trans hV.1.2.1) rfl ?_
      refine jv_iload_n (q := 43) G 0 dX2_takeAll_42 rfl rfl rfl ?_
      refine jv_aaldQ (q := 44) G dX2_takeAll_43 ((congrFun hFt.1 (z 1 e)).trans hV.1.2.2.1) rfl (by omega) (by decide) ((hFt.p (z 1 e) i).trans (hV.1.2.2.2.2.2.2 i hi10)) rfl ?_
      refine jv_aast (q := 45) G (ci := 5) rfl dX2_takeAll_44 ((congrFun hFt.1 (z 2 e)).trans hV.1.2.2.2.2.1) ((congrFun hFt.1 _).trans tlx.1) rfl (by omega) (by decide) rfl ?_
      refine jv_iinc (q := 48) (lo' := [(2, .int (nI (i + 1))), (0, .ref (z 0 e)), (1, .ref (z 0 f))]) (v := nI (i + 1)) G 0 dX2_takeAll_45 rfl (nI_1 i) (by decide) rfl rfl ?_
      refine jv_goto (q := 2) G dX2_takeAll_48 (by decide) ?_
      refine jv_lo [0, 1, 2] (lo' := [(2, .int (nI (i + 1))), (0, .ref (z 0 e)), (1, .ref (z 0 f))]) rfl ?_
      have oxi2 : el_o z T N tO e := oe
      have hno : m_at (ts.take i) (nI (mt_n t)) = none := by
        cases hm : m_at (ts.take i) (nI (mt_n t)) with
        | none => rfl
        | some k =>
          obtain ⟨t', h1', h2'⟩ := m_at_get hm
          have hki := jv_ltGet h1'
          rw [tk] at hki
          rw [List.getElem?_take_of_lt hki] at h1'
          have hb' := (hf1.2.2.2.2.1 k t' h1').2.1
          have := hu k i t' t h1' ht ((nI_eq (by omega) (by omega)).mp h2')
          omega
      have hz0 : z 0 e ≠ T (10 * e + i) := fun q => by
        have h1' : jv_sh h1 (z 0 e) = _ := hV.1.1
        rw [q, tlx.1] at h1'; cases h1'
      have hw : cv_T z N (jv_wI h2 (z 0 e) 3 (nI i)) (T (10 * e + i)) t := (cF.rf.wI (S := fun b => b = z 0 e) rfl 3 (nI i)).G.vT hr0.2 oxi (fun b q1 q2 => by rw [q2, oe.1] at q1; exact hz0 q1) hTt
      have hsn := cv_E.snocT (t := t) hV oe (by rw [tk]; exact hi10) (hb := jv_wI h2 (z 0 e) 3 (nI i)) (by rw [tk]; exact hFt.w2 _ _ _) (by rw [tk]; exact hw) hr0.2 hno
      rw [tk, w3] at hsn
      have e1 : ts.take i ++ [t] = ts.take (i + 1) := by rw [List.take_add_one, ht]; rfl
      rw [e1] at hsn
      exact ih (i + 1) _ (by omega) ((hG.tr (hFt.G.mono (S' := (fun b => tO b = z 0 e ∨ ∃ k, k < 10 ∧ tO b = T (10 * e + k))) (fun b q => Or.inr ⟨i, hi10, q⟩))).wP (Or.inl oe.2.2.1) _ _) hsn ((hFt.i (fun q => hz0 (oe.1.symm.trans q)) 1).trans hI1)
set_option maxHeartbeats 4000000 in
set_option maxRecDepth 100000 in
theorem k_takeAll {lA : Launch} (hlt : lA.stackTraces = false) {D : jv_D} {base : Nat} {z : Nat → Nat → Nat} {T : Nat → Nat} {N : Nat → Nat → Nat} {tO : Nat → Nat} {h : jv_H} {e : Nat} {ts : List mT} (hE : cv_E z T N h e []) (oe : el_o z T N tO e) {f : Nat} (hf : cv_E z T N h f ts) (of : el_o z T N tO f) (hx : ∀ k k', k < 10 → k' < 10 → T (10 * e + k) ≠ T (10 * f + k')) (hx0 : z 0 e ≠ z 0 f) (hx1 : ∀ k, k < 10 → z 0 e ≠ T (10 * f + k)) (hx2 : ∀ k, k < 10 → T (10 * e + k) ≠ z 0 f) (hia : ∀ t ∈ ts, mt_i t = true → mt_a t = true) (hu : m_uq ts) : jv_Met lA D base yX2_takeAll (.code yX2_takeAll cX2_takeAll 3 none) 4 0 0 [.ref (z 0 e), .ref (z 0 f)] h (fun y h' => y = none ∧ cG (fun b => tO b = z 0 e ∨ ∃ k, k < 10 ∧ tO b = T (10 * e + k)) h h' ∧ cv_E z T N h' e ts ∧ jv_I h' (z 0 e) 1 = jv_I h (z 0 e) 1) jv_no := by
  refine jv_ofV (lo := [(0, .ref (z 0 e)), (1, .ref (z 0 f))]) hlt (by decide) (Nat.le_of_ble_eq_true rfl) rfl (fun E hEl hEd hEz Z G hr ht hnm => ?_)
  subst hEl; subst hEd; subst hEz
  refine jv_iconst (q := 1) (v := nI 0) G dX2_takeAll_0 (by decide) rfl ?_
  refine jv_istore_n (q := 2) (lo' := [(2, .int (nI 0)), (0, .ref (z 0 e)), (1, .ref (z 0 f))]) G dX2_takeAll_1 rfl (by decide) rfl rfl ?_
  refine jv_lo [0, 1, 2] (lo' := [(2, .int (nI 0)), (0, .ref (z 0 e)), (1, .ref (z 0 f))]) rfl ?_
  have hV0 : cv_E z T N (jv_wI h (z 0 e) 3 (nI 0)) e (ts.take 0) := by
    obtain ⟨⟨r1, r2, r3, r4, r5, r6, r7⟩, r8, r9, r10, r11, r12⟩ := hE
    exact ⟨⟨r1, r2, r3, r4, r5, by rw [oI_o, if_neg (by decide)]; exact r6, r7⟩, r8, by rw [oI_o, if_pos rfl]; rfl, by simp, fun k t ht => by simp at ht, fun n hn => (r12 n hn).trans (by rw [List.take_zero])⟩
  refine k_ta_loop hE oe hf of hx hx0 hx1 hx2 hia hu hlt G Z (fun h2 hG hV hI1 => ?_) ts.length 0 _ (by omega) cG.rf hV0 rfl
  have hl10 := hf.2.2.2.1
  have n0 : ¬ (tO (z 0 f) = z 0 e ∨ ∃ k, k < 10 ∧ tO (z 0 f) = T (10 * e + k)) := fun q => by
    rw [of.1] at q
    rcases q with q | ⟨k, hk, q⟩
    · exact hx0 q.symm
    · exact hx2 k hk q.symm
  refine jv_aload_n (q := 52) G 0 dX2_takeAll_51 rfl rfl rfl ?_
  refine jv_aload_n (q := 53) G 1 dX2_takeAll_52 rfl rfl rfl ?_
  refine jv_getI (q := 56) G dX2_takeAll_53 fl_X2_33 rfl ((congrFun hG.1 _).trans hf.1.1) ((hG.i n0 3).trans hf.2.2.1) rfl ?_
  refine jv_putI (q := 59) G dX2_takeAll_56 fl_X2_33 rfl hV.1.1 rfl ?_
  refine jv_vret G hr dX2_takeAll_59 (Nat.le_of_ble_eq_true rfl) (Nat.le_of_ble_eq_true rfl) ?_
  refine ⟨rfl, hG.wI (Or.inl oe.1) 3 _, ?_, by rw [oI_o, if_neg (by decide)]; exact hI1⟩
  rw [List.take_length] at hV
  exact hV
