/-! what a wrapper of the law gives: the code, and the value in out[0] -/
def lP (z : Nat → Nat → Nat) (tO : Nat → Nat) (o : Nat) (h : jv_H) (O : Nat × Int32 × mA) : Option Value → jv_H → Prop := fun v h' => v = some (.int (nI O.1)) ∧ (O.1 = 0 → jv_L h' o 0 = O.2.1.toInt64) ∧ (∃ T N, cl_R z T N tO h' O.2.2) ∧ sF lcs h h'
theorem l1_cn : ∀ s, cn s = true → (fun s : jv_S => decide (s = .inr (.long, 1))) s = false := fun s q => by
  refine decide_eq_false (fun y => ?_)
  subst y; cases q
theorem op_P {P : Nat × Int32 × mA → Prop} {M : mA} {e : Int32} {f : Nat → Nat × Int32 × mA} (h1 : P (1, 0, M)) (h2 : P (2, 0, M)) (hf : ∀ k, P (f k)) : P (m_op M e f) := by
  unfold m_op
  split
  · exact h1
  · split
    · exact h2
    · exact hf _
theorem opT_P {P : Nat × Int32 × mA → Prop} {M : mA} {e n : Int32} {zz : Nat × Int32 × mA} {f : Nat → Nat → mT → Nat × Int32 × mA} (h1 : P (1, 0, M)) (h2 : P (2, 0, M)) (hz : P zz) (hf : ∀ k i t, P (f k i t)) : P (m_opT M e n zz f) := op_P h1 h2 (fun k => by
  split
  · exact hz
  · split
    · exact hz
    · exact hf _ _ _)
theorem cl_P {P : Nat × Int32 × mA → Prop} {M : mA} {e : Int32} {f : Nat → Nat × Int32 × mA} (h1 : P (1, 0, M)) (h2 : P (2, 0, M)) (hf : ∀ k, P (f k)) : P (m_cl M e f) := by
  unfold m_cl
  split
  · exact h1
  · split
    · exact hf _
    · exact h2
section WR
variable {z : Nat → Nat → Nat} {tO : Nat → Nat} {h h1 : jv_H} {o : Nat} {O : Nat × Int32 × mA}
theorem l1_F {v : Int64} (ho : jv_sh h o = some (.inr (.long, 1))) : sF (fun s => decide (s = .inr (.long, 1))) h (jv_wL h o 0 v) := ((cF.rf (S := fun b => b = o)).wL (b := o) rfl 0 v).G.sF (fun b s e q => by rw [q, ho] at e; cases e; rfl)
theorem lP_0 {v : Int64} (e0 : O.1 = 0) (hR : ∃ T N, cl_R z T N tO h1 O.2.2) (f : sF cs h h1) (ho : jv_sh h o = some (.inr (.long, 1))) (ev : v = O.2.1.toInt64) : lP z tO o h O (some (.int (nI 0))) (jv_wL h1 o 0 v) := by
  obtain ⟨T, N, hR⟩ := hR
  have g := l1_F (v := v) ((f.sh o).trans ho)
  refine ⟨by rw [e0], fun _ => (jv_L_self _ _ _ _).trans ev, ⟨T, N, g.R l1_cn hR⟩, (f.mono (fun s q => ?_)).tr (g.mono (fun s q => ?_))⟩
  · unfold lcs; rw [q]; rfl
  · have q : decide (s = .inr (.long, 1)) = true := q
    unfold lcs; rw [q, Bool.or_true]
theorem lP_n {n : Nat} (e : O.1 = n) (hn : ¬ n = 0) (hR : ∃ T N, cl_R z T N tO h1 O.2.2) (f : sF cs h h1) : lP z tO o h O (some (.int (nI n))) h1 := ⟨by rw [e], fun q => absurd (e.symm.trans q) hn, hR, f.mono (fun s q => by unfold lcs; rw [q]; rfl)⟩
end WR
theorem le_edition {M : mA} : (m_ed M).1 ≤ 1 := by
  unfold m_ed
  repeat' split
  all_goals first | decide | simp
set_option maxHeartbeats 4000000 in
set_option maxRecDepth 100000 in
theorem w_edition {lA : Launch} (hlt : lA.stackTraces = false) {D : jv_D} {base : Nat} {z : Nat → Nat → Nat} {T : Nat → Nat} {N : Nat → Nat → Nat} {tO : Nat → Nat} {h : jv_H} {M : mA} (hR : cl_R z T N tO h M) {o : Nat} (ho : jv_sh h o = some (.inr (.long, 1))) : jv_Met lA D base yL_edition (.codeWith yL_edition cL_edition 3 (some .int) [(0, 8, 11, 13)]) 3 1 6 [.ref (z 6 0), .ref o] h (lP z tO o h (m_ed M)) jv_no := by
  refine jv_ofVH (lo := [(0, .ref (z 6 0)), (1, .ref o)]) hlt (by decide) (Nat.le_of_ble_eq_true rfl) rfl (fun E hEl hEd hEz Z G hr ht hnm => ?_)
  subst hEl; subst hEd; subst hEz
  refine jv_aload_n (q := 1) G 1 dL_edition_0 rfl rfl rfl ?_
  refine jv_iconst (q := 2) (v := nI 0) G dL_edition_1 (by decide) rfl ?_
  refine jv_aload_n (q := 3) G 0 dL_edition_2 rfl rfl rfl ?_
  refine jv_callV (q := 6) (As := []) (rest := [.int (nI 0), .ref o]) G Z ml_L_7 (k_edition hlt hR) hR.1.1.1 dL_edition_3 rfl (by decide) (by decide) (by decide) (by decide) (Nat.le_of_ble_eq_true rfl) rfl rfl (fun v1 h1 y1 => ?_) (fun cx h1 yx => ?_)
  · obtain ⟨e0, rfl, hR1, f1⟩ := y1
    show jv_V E 3 h1 (0 + 1) (0 + 6) (jv_Q E (lP z tO o h (m_ed M)) jv_no 1 6) 6 [(0, .ref (z 6 0)), (1, .ref o)] [.int ((m_ed M).2.1), .int (nI 0), .ref o]
    refine jv_i2l (q := 7) G dL_edition_6 rfl rfl ?_
    refine jv_last (q := 8) G dL_edition_7 ((f1.sh o).trans ho) rfl (by omega) (by decide) rfl ?_
    refine jv_goto (q := 14) G dL_edition_8 (by decide) ?_
    refine jv_iconst (q := 15) (v := nI 0) G dL_edition_14 (by decide) rfl ?_
    refine jv_iret G hr dL_edition_15 (Nat.le_of_ble_eq_true rfl) (Nat.le_of_ble_eq_true rfl) ?_
    exact lP_0 e0 hR1 f1 ho rfl
  · obtain ⟨n0, y2, hR1, f1⟩ := yx
    have hle := le_edition (M := M)
    have n0 : ¬ (m_ed M).1 = 0 := n0
    have alt : (m_ed M).1 = 1 := by omega
    have en := alt
    have ec : cx = "java/lang/UnsupportedOperationException" := by rw [y2, en]; rfl
    subst ec
    refine jv_catch (k := "java/lang/UnsupportedOperationException") (q := 11) (a := []) (x := (0, 8, 11, 13)) (b := []) G ht rfl (by decide) (fun w hw => by cases hw) (by decide) (by decide) ck_13 ct_13 rfl (fun v => ?_)
    refine jv_astore_n (q := 12) (lo' := [(2, .ref v), (0, .ref (z 6 0)), (1, .ref o)]) G dL_edition_11 rfl (by decide) rfl rfl ?_
    refine jv_iconst (q := 13) (v := nI 1) G dL_edition_12 (by decide) rfl ?_
    refine jv_iret G hr dL_edition_13 (Nat.le_of_ble_eq_true rfl) (Nat.le_of_ble_eq_true rfl) ?_
    exact lP_n en (by decide) hR1 f1
theorem le_copy {M : mA} {p0 : Int32} : (m_cy M p0).1 ≤ 3 := by
  unfold m_cy
  repeat' split
  all_goals first | decide | simp
set_option maxHeartbeats 4000000 in
set_option maxRecDepth 100000 in
theorem w_copy {lA : Launch} (hlt : lA.stackTraces = false) {D : jv_D} {base : Nat} {z : Nat → Nat → Nat} {T : Nat → Nat} {N : Nat → Nat → Nat} {tO : Nat → Nat} {h : jv_H} {M : mA} (hR : cl_R z T N tO h M) {o : Nat} (ho : jv_sh h o = some (.inr (.long, 1))) {p0 : Int32} : jv_Met lA D base yL_copy (.codeWith yL_copy cL_copy 4 (some .int) [(0, 9, 12, 19), (0, 9, 15, 21), (0, 9, 18, 13)]) 6 3 18 [.ref (z 6 0), .int p0, .ref o] h (lP z tO o h (m_cy M p0)) jv_no := by
  refine jv_ofVH (lo := [(0, .ref (z 6 0)), (1, .int p0), (2, .ref o)]) hlt (by decide) (Nat.le_of_ble_eq_true rfl) rfl (fun E hEl hEd hEz Z G hr ht hnm => ?_)
  subst hEl; subst hEd; subst hEz
  refine jv_aload_n (q := 1) G 2 dL_copy_0 rfl rfl rfl ?_
  refine jv_iconst (q := 2) (v := nI 0) G dL_copy_1 (by decide) rfl ?_
  refine jv_aload_n (q := 3) G 0 dL_copy_2 rfl rfl rfl ?_
  refine jv_iload_n (q := 4) G 1 dL_copy_3 rfl rfl rfl ?_
  refine jv_callV (q := 7) (As := [.int p0]) (rest := [.int (nI 0), .ref o]) G Z ml_L_15 (k_copy hlt hR) hR.1.1.1 dL_copy_4 rfl (by decide) (by decide) (by decide) (by decide) (Nat.le_of_ble_eq_true rfl) rfl rfl (fun v1 h1 y1 => ?_) (fun cx h1 yx => ?_)
  · obtain ⟨e0, rfl, hR1, f1⟩ := y1
    show jv_V E 4 h1 (0 + 3) (0 + 18) (jv_Q E (lP z tO o h (m_cy M p0)) jv_no 3 18) 7 [(0, .ref (z 6 0)), (1, .int p0), (2, .ref o)] [.int ((m_cy M p0).2.1), .int (nI 0), .ref o]
    refine jv_i2l (q := 8) G dL_copy_7 rfl rfl ?_
    refine jv_last (q := 9) G dL_copy_8 ((f1.sh o).trans ho) rfl (by omega) (by decide) rfl ?_
    refine jv_goto (q := 21) G dL_copy_9 (by decide) ?_
    refine jv_iconst (q := 22) (v := nI 0) G dL_copy_21 (by decide) rfl ?_
    refine jv_iret G hr dL_copy_22 (Nat.le_of_ble_eq_true rfl) (Nat.le_of_ble_eq_true rfl) ?_
    exact lP_0 e0 hR1 f1 ho rfl
  · obtain ⟨n0, y2, hR1, f1⟩ := yx
    have hle := le_copy (M := M) (p0 := p0)
    have n0 : ¬ (m_cy M p0).1 = 0 := n0
    have alt : (m_cy M p0).1 = 1 ∨ (m_cy M p0).1 = 2 ∨ (m_cy M p0).1 = 3 := by omega
    rcases alt with en | en | en
    · have ec : cx = "java/lang/IndexOutOfBoundsException" := by rw [y2, en]; rfl
      subst ec
      refine jv_catch (k := "java/lang/IndexOutOfBoundsException") (q := 12) (a := []) (x := (0, 9, 12, 19)) (b := [(0, 9, 15, 21), (0, 9, 18, 13)]) G ht rfl (by decide) (fun w hw => by cases hw) (by decide) (by decide) ck_19 ct_19 rfl (fun v => ?_)
      refine jv_astore_n (q := 13) (lo' := [(3, .ref v), (0, .ref (z 6 0)), (1, .int p0), (2, .ref o)]) G dL_copy_12 rfl (by decide) rfl rfl ?_
      refine jv_iconst (q := 14) (v := nI 1) G dL_copy_13 (by decide) rfl ?_
      refine jv_iret G hr dL_copy_14 (Nat.le_of_ble_eq_true rfl) (Nat.le_of_ble_eq_true rfl) ?_
      exact lP_n en (by decide) hR1 f1
    · have ec : cx = "java/lang/IllegalStateException" := by rw [y2, en]; rfl
      subst ec
      refine jv_catch (k := "java/lang/IllegalStateException") (q := 15) (a := [(0, 9, 12, 19)]) (x := (0, 9, 15, 21)) (b := [(0, 9, 18, 13)]) G ht rfl (by decide) (fun w hw => by
        simp only [List.mem_cons, List.not_mem_nil, or_false] at hw
        subst hw
        exact ⟨by decide, "java/lang/IndexOutOfBoundsException", by decide, ck_19, by decide⟩) (by decide) (by decide) ck_21 ct_21 rfl (fun v => ?_)
      refine jv_astore_n (q := 16) (lo' := [(3, .ref v), (0, .ref (z 6 0)), (1, .int p0), (2, .ref o)]) G dL_copy_15 rfl (by decide) rfl rfl ?_
      refine jv_iconst (q := 17) (v := nI 2) G dL_copy_16 (by decide) rfl ?_
      refine jv_iret G hr dL_copy_17 (Nat.le_of_ble_eq_true rfl) (Nat.le_of_ble_eq_true rfl) ?_
      exact lP_n en (by decide) hR1 f1
    · have ec : cx = "java/lang/UnsupportedOperationException" := by rw [y2, en]; rfl
      subst ec
      refine jv_catch (k := "java/lang/UnsupportedOperationException") (q := 18) (a := [(0, 9, 12, 19), (0, 9, 15, 21)]) (x := (0, 9, 18, 13)) (b := []) G ht rfl (by decide) (fun w hw => by
        simp only [List.mem_cons, List.not_mem_nil, or_false] at hw
        rcases hw with rfl | rfl
        · exact ⟨by decide, "java/lang/IndexOutOfBoundsException", by decide, ck_19, by decide⟩
        · exact ⟨by decide, "java/lang/IllegalStateException", by decide, ck_21, by decide⟩) (by decide) (by decide) ck_13 ct_13 rfl (fun v => ?_)
      refine jv_astore_n (q := 19) (lo' := [(3, .ref v), (0, .ref (z 6 0)), (1, .int p0), (2, .ref o)]) G dL_copy_18 rfl (by decide) rfl rfl ?_
      refine jv_iconst (q := 20) (v := nI 3) G dL_copy_19 (by decide) rfl ?_
      refine jv_iret G hr dL_copy_20 (Nat.le_of_ble_eq_true rfl) (Nat.le_of_ble_eq_true rfl) ?_
      exact lP_n en (by decide) hR1 f1
theorem le_type {M : mA} {p0 : Int32} {p1 : Int32} {p2 : Bool} {p3 : Bool} {p4 : Int32} {p5 : Bool} {p6 : Int32} : (m_ty M p0 p1 p2 p3 p4 p5 p6).1 ≤ 4 := by
  unfold m_ty
  refine op_P (P := fun O => O.1 ≤ 4) (show (1 : Nat) ≤ 4 by decide) (show (2 : Nat) ≤ 4 by decide) (fun k => ?_)
  repeat' split
  all_goals simp
set_option maxHeartbeats 4000000 in
set_option maxRecDepth 100000 in
theorem w_type {lA : Launch} (hlt : lA.stackTraces = false) {D : jv_D} {base : Nat} {z : Nat → Nat → Nat} {T : Nat → Nat} {N : Nat → Nat → Nat} {tO : Nat → Nat} {h : jv_H} {M : mA} (hR : cl_R z T N tO h M) {o : Nat} (ho : jv_sh h o = some (.inr (.long, 1))) {p0 : Int32} {p1 : Int32} {p2 : Bool} {p3 : Bool} {p4 : Int32} {p5 : Bool} {p6 : Int32} : jv_Met lA D base yL_type (.codeWith yL_type cL_type 10 (some .int) [(0, 20, 23, 19), (0, 20, 27, 21), (0, 20, 31, 27), (0, 20, 35, 13)]) 5 3 18 [.ref (z 6 0), .int p0, .int p1, .int (jv_bI p2), .int (jv_bI p3), .int p4, .int (jv_bI p5), .int p6, .ref o] h (lP z tO o h (m_ty M p0 p1 p2 p3 p4 p5 p6)) jv_no := by
  refine jv_ofVH (lo := [(0, .ref (z 6 0)), (1, .int p0), (2, .int p1), (3, .int (jv_bI p2)), (4, .int (jv_bI p3)), (5, .int p4), (6, .int (jv_bI p5)), (7, .int p6), (8, .ref o)]) hlt (by decide) (Nat.le_of_ble_eq_true rfl) rfl (fun E hEl hEd hEz Z G hr ht hnm => ?_)
  subst hEl; subst hEd; subst hEz
  refine jv_aload (q := 2) G 8 dL_type_0 rfl rfl ?_
  refine jv_iconst (q := 3) (v := nI 0) G dL_type_2 (by decide) rfl ?_
  refine jv_aload_n (q := 4) G 0 dL_type_3 rfl rfl rfl ?_
  refine jv_iload_n (q := 5) G 1 dL_type_4 rfl rfl rfl ?_
  refine jv_iload_n (q := 6) G 2 dL_type_5 rfl rfl rfl ?_
  refine jv_iload_n (q := 7) G 3 dL_type_6 rfl rfl rfl ?_
  refine jv_iload (q := 9) G 4 dL_type_7 rfl rfl ?_
  refine jv_iload (q := 11) G 5 dL_type_9 rfl rfl ?_
  refine jv_iload (q := 13) G 6 dL_type_11 rfl rfl ?_
  refine jv_iload (q := 15) G 7 dL_type_13 rfl rfl ?_
  refine jv_callV (q := 18) (As := [.int p0, .int p1, .int (jv_bI p2), .int (jv_bI p3), .int p4, .int (jv_bI p5), .int p6]) (rest := [.int (nI 0), .ref o]) G Z ml_L_23 (k_type hlt hR) hR.1.1.1 dL_type_15 rfl (by decide) (by decide) (by decide) (by decide) (Nat.le_of_ble_eq_true rfl) rfl rfl (fun v1 h1 y1 => ?_) (fun cx h1 yx => ?_)
  · obtain ⟨e0, rfl, hR1, f1⟩ := y1
    show jv_V E 10 h1 (0 + 3) (0 + 18) (jv_Q E (lP z tO o h (m_ty M p0 p1 p2 p3 p4 p5 p6)) jv_no 3 18) 18 [(0, .ref (z 6 0)), (1, .int p0), (2, .int p1), (3, .int (jv_bI p2)), (4, .int (jv_bI p3)), (5, .int p4), (6, .int (jv_bI p5)), (7, .int p6), (8, .ref o)] [.int ((m_ty M p0 p1 p2 p3 p4 p5 p6).2.1), .int (nI 0), .ref o]
    refine jv_i2l (q := 19) G dL_type_18 rfl rfl ?_
    refine jv_last (q := 20) G dL_type_19 ((f1.sh o).trans ho) rfl (by omega) (by decide) rfl ?_
    refine jv_goto (q := 39) G dL_type_20 (by decide) ?_
    refine jv_iconst (q := 40) (v := nI 0) G dL_type_39 (by decide) rfl ?_
    refine jv_iret G hr dL_type_40 (Nat.le_of_ble_eq_true rfl) (Nat.le_of_ble_eq_true rfl) ?_
    exact lP_0 e0 hR1 f1 ho rfl
  · obtain ⟨n0, y2, hR1, f1⟩ := yx
    have hle := le_type (M := M) (p0 := p0) (p1 := p1) (p2 := p2) (p3 := p3) (p4 := p4) (p5 := p5) (p6 := p6)
    have n0 : ¬ (m_ty M p0 p1 p2 p3 p4 p5 p6).1 = 0 := n0
    have alt : (m_ty M p0 p1 p2 p3 p4 p5 p6).1 = 1 ∨ (m_ty M p0 p1 p2 p3 p4 p5 p6).1 = 2 ∨ (m_ty M p0 p1 p2 p3 p4 p5 p6).1 = 3 ∨ (m_ty M p0 p1 p2 p3 p4 p5 p6).1 = 4 := by omega
    rcases alt with en | en | en | en
    · have ec : cx = "java/lang/IndexOutOfBoundsException" := by rw [y2, en]; rfl
      subst ec
      refine jv_catch (k := "java/lang/IndexOutOfBoundsException") (q := 23) (a := []) (x := (0, 20, 23, 19)) (b := [(0, 20, 27, 21), (0, 20, 31, 27), (0, 20, 35, 13)]) G ht rfl (by decide) (fun w hw => by cases hw) (by decide) (by decide) ck_19 ct_19 rfl (fun v => ?_)
      refine jv_astore (q := 25) (lo' := [(9, .ref v), (0, .ref (z 6 0)), (1, .int p0), (2, .int p1), (3, .int (jv_bI p2)), (4, .int (jv_bI p3)), (5, .int p4), (6, .int (jv_bI p5)), (7, .int p6), (8, .ref o)]) G dL_type_23 (by decide) rfl rfl ?_
      refine jv_iconst (q := 26) (v := nI 1) G dL_type_25 (by decide) rfl ?_
      refine jv_iret G hr dL_type_26 (Nat.le_of_ble_eq_true rfl) (Nat.le_of_ble_eq_true rfl) ?_
      exact lP_n en (by decide) hR1 f1
    · have ec : cx = "java/lang/IllegalStateException" := by rw [y2, en]; rfl
      subst ec
      refine jv_catch (k := "java/lang/IllegalStateException") (q := 27) (a := [(0, 20, 23, 19)]) (x := (0, 20, 27, 21)) (b := [(0, 20, 31, 27), (0, 20, 35, 13)]) G ht rfl (by decide) (fun w hw => by
        simp only [List.mem_cons, List.not_mem_nil, or_false] at hw
        subst hw
        exact ⟨by decide, "java/lang/IndexOutOfBoundsException", by decide, ck_19, by decide⟩) (by decide) (by decide) ck_21 ct_21 rfl (fun v => ?_)
      refine jv_astore (q := 29) (lo' := [(9, .ref v), (0, .ref (z 6 0)), (1, .int p0), (2, .int p1), (3, .int (jv_bI p2)), (4, .int (jv_bI p3)), (5, .int p4), (6, .int (jv_bI p5)), (7, .int p6), (8, .ref o)]) G dL_type_27 (by decide) rfl rfl ?_
      refine jv_iconst (q := 30) (v := nI 2) G dL_type_29 (by decide) rfl ?_
      refine jv_iret G hr dL_type_30 (Nat.le_of_ble_eq_true rfl) (Nat.le_of_ble_eq_true rfl) ?_
      exact lP_n en (by decide) hR1 f1
    · have ec : cx = "java/lang/IllegalArgumentException" := by rw [y2, en]; rfl
      subst ec
      refine jv_catch (k := "java/lang/IllegalArgumentException") (q := 31) (a := [(0, 20, 23, 19), (0, 20, 27, 21)]) (x := (0, 20, 31, 27)) (b := [(0, 20, 35, 13)]) G ht rfl (by decide) (fun w hw => by
        simp only [List.mem_cons, List.not_mem_nil, or_false] at hw
        rcases hw with rfl | rfl
        · exact ⟨by decide, "java/lang/IndexOutOfBoundsException", by decide, ck_19, by decide⟩
        · exact ⟨by decide, "java/lang/IllegalStateException", by decide, ck_21, by decide⟩) (by decide) (by decide) ck_27 ct_27 rfl (fun v => ?_)
      refine jv_astore (q := 33) (lo' := [(9, .ref v), (0, .ref (z 6 0)), (1, .int p0), (2, .int p1), (3, .int (jv_bI p2)), (4, .int (jv_bI p3)), (5, .int p4), (6, .int (jv_bI p5)), (7, .int p6), (8, .ref o)]) G dL_type_31 (by decide) rfl rfl ?_
      refine jv_iconst (q := 34) (v := nI 3) G dL_type_33 (by decide) rfl ?_
      refine jv_iret G hr dL_type_34 (Nat.le_of_ble_eq_true rfl) (Nat.le_of_ble_eq_true rfl) ?_
      exact lP_n en (by decide) hR1 f1
    · have ec : cx = "java/lang/UnsupportedOperationException" := by rw [y2, en]; rfl
      subst ec
      refine jv_catch (k := "java/lang/UnsupportedOperationException") (q := 35) (a := [(0, 20, 23, 19), (0, 20, 27, 21), (0, 20, 31, 27)]) (x := (0, 20, 35, 13)) (b := []) G ht rfl (by decide) (fun w hw => by
        simp only [List.mem_cons, List.not_mem_nil, or_false] at hw
        rcases hw with rfl | rfl | rfl
        · exact ⟨by decide, "java/lang/IndexOutOfBoundsException", by decide, ck_19, by decide⟩
        · exact ⟨by decide, "java/lang/IllegalStateException", by decide, ck_21, by decide⟩
        · exact ⟨by decide, "java/lang/IllegalArgumentException", by decide, ck_27, by decide⟩) (by decide) (by decide) ck_13 ct_13 rfl (fun v => ?_)
      refine jv_astore (q := 37) (lo' := [(9, .ref v), (0, .ref (z 6 0)), (1, .int p0), (2, .int p1), (3, .int (jv_bI p2)), (4, .int (jv_bI p3)), (5, .int p4), (6, .int (jv_bI p5)), (7, .int p6), (8, .ref o)]) G dL_type_35 (by decide) rfl rfl ?_
      refine jv_iconst (q := 38) (v := nI 4) G dL_type_37 (by decide) rfl ?_
      refine jv_iret G hr dL_type_38 (Nat.le_of_ble_eq_true rfl) (Nat.le_of_ble_eq_true rfl) ?_
      exact lP_n en (by decide) hR1 f1
theorem le_implement {M : mA} {p0 : Int32} {p1 : Int32} {p2 : Int32} : (m_im M p0 p1 p2).1 ≤ 4 := by
  unfold m_im
  refine opT_P (P := fun O => O.1 ≤ 4) (show (1 : Nat) ≤ 4 by decide) (show (2 : Nat) ≤ 4 by decide) (show (3 : Nat) ≤ 4 by decide) (fun k i t => ?_)
  repeat' split
  all_goals simp
set_option maxHeartbeats 4000000 in
set_option maxRecDepth 100000 in
theorem w_implement {lA : Launch} (hlt : lA.stackTraces = false) {D : jv_D} {base : Nat} {z : Nat → Nat → Nat} {T : Nat → Nat} {N : Nat → Nat → Nat} {tO : Nat → Nat} {h : jv_H} {M : mA} (hR : cl_R z T N tO h M) {o : Nat} (ho : jv_sh h o = some (.inr (.long, 1))) {p0 : Int32} {p1 : Int32} {p2 : Int32} : jv_Met lA D base yL_implement (.codeWith yL_implement cL_implement 6 (some .int) [(0, 12, 15, 19), (0, 12, 19, 21), (0, 12, 23, 27), (0, 12, 27, 13)]) 5 4 24 [.ref (z 6 0), .int p0, .int p1, .int p2, .ref o] h (lP z tO o h (m_im M p0 p1 p2)) jv_no := by
  refine jv_ofVH (lo := [(0, .ref (z 6 0)), (1, .int p0), (2, .int p1), (3, .int p2), (4, .ref o)]) hlt (by decide) (Nat.le_of_ble_eq_true rfl) rfl (fun E hEl hEd hEz Z G hr ht hnm => ?_)
  subst hEl; subst hEd; subst hEz
  refine jv_aload (q := 2) G 4 dL_implement_0 rfl rfl ?_
  refine jv_iconst (q := 3) (v := nI 0) G dL_implement_2 (by decide) rfl ?_
  refine jv_aload_n (q := 4) G 0 dL_implement_3 rfl rfl rfl ?_
  refine jv_iload_n (q := 5) G 1 dL_implement_4 rfl rfl rfl ?_
  refine jv_iload_n (q := 6) G 2 dL_implement_5 rfl rfl rfl ?_
  refine jv_iload_n (q := 7) G 3 dL_implement_6 rfl rfl rfl ?_
  refine jv_callV (q := 10) (As := [.int p0, .int p1, .int p2]) (rest := [.int (nI 0), .ref o]) G Z ml_L_29 (k_implement hlt hR) hR.1.1.1 dL_implement_7 rfl (by decide) (by decide) (by decide) (by decide) (Nat.le_of_ble_eq_true rfl) rfl rfl (fun v1 h1 y1 => ?_) (fun cx h1 yx => ?_)
  · obtain ⟨e0, rfl, hR1, f1⟩ := y1
    show jv_V E 6 h1 (0 + 4) (0 + 24) (jv_Q E (lP z tO o h (m_im M p0 p1 p2)) jv_no 4 24) 10 [(0, .ref (z 6 0)), (1, .int p0), (2, .int p1), (3, .int p2), (4, .ref o)] [.int ((m_im M p0 p1 p2).2.1), .int (nI 0), .ref o]
    refine jv_i2l (q := 11) G dL_implement_10 rfl rfl ?_
    refine jv_last (q := 12) G dL_implement_11 ((f1.sh o).trans ho) rfl (by omega) (by decide) rfl ?_
    refine jv_goto (q := 31) G dL_implement_12 (by decide) ?_
    refine jv_iconst (q := 32) (v := nI 0) G dL_implement_31 (by decide) rfl ?_
    refine jv_iret G hr dL_implement_32 (Nat.le_of_ble_eq_true rfl) (Nat.le_of_ble_eq_true rfl) ?_
    exact lP_0 e0 hR1 f1 ho rfl
  · obtain ⟨n0, y2, hR1, f1⟩ := yx
    have hle := le_implement (M := M) (p0 := p0) (p1 := p1) (p2 := p2)
    have n0 : ¬ (m_im M p0 p1 p2).1 = 0 := n0
    have alt : (m_im M p0 p1 p2).1 = 1 ∨ (m_im M p0 p1 p2).1 = 2 ∨ (m_im M p0 p1 p2).1 = 3 ∨ (m_im M p0 p1 p2).1 = 4 := by omega
    rcases alt with en | en | en | en
    · have ec : cx = "java/lang/IndexOutOfBoundsException" := by rw [y2, en]; rfl
      subst ec
      refine jv_catch (k := "java/lang/IndexOutOfBoundsException") (q := 15) (a := []) (x := (0, 12, 15, 19)) (b := [(0, 12, 19, 21), (0, 12, 23, 27), (0, 12, 27, 13)]) G ht rfl (by decide) (fun w hw => by cases hw) (by decide) (by decide) ck_19 ct_19 rfl (fun v => ?_)
      refine jv_astore (q := 17) (lo' := [(5, .ref v), (0, .ref (z 6 0)), (1, .int p0), (2, .int p1), (3, .int p2), (4, .ref o)]) G dL_implement_15 (by decide) rfl rfl ?_
      refine jv_iconst (q := 18) (v := nI 1) G dL_implement_17 (by decide) rfl ?_
      refine jv_iret G hr dL_implement_18 (Nat.le_of_ble_eq_true rfl) (Nat.le_of_ble_eq_true rfl) ?_
      exact lP_n en (by decide) hR1 f1
    · have ec : cx = "java/lang/IllegalStateException" := by rw [y2, en]; rfl
      subst ec
      refine jv_catch (k := "java/lang/IllegalStateException") (q := 19) (a := [(0, 12, 15, 19)]) (x := (0, 12, 19, 21)) (b := [(0, 12, 23, 27), (0, 12, 27, 13)]) G ht rfl (by decide) (fun w hw => by
        simp only [List.mem_cons, List.not_mem_nil, or_false] at hw
        subst hw
        exact ⟨by decide, "java/lang/IndexOutOfBoundsException", by decide, ck_19, by decide⟩) (by decide) (by decide) ck_21 ct_21 rfl (fun v => ?_)
      refine jv_astore (q := 21) (lo' := [(5, .ref v), (0, .ref (z 6 0)), (1, .int p0), (2, .int p1), (3, .int p2), (4, .ref o)]) G dL_implement_19 (by decide) rfl rfl ?_
      refine jv_iconst (q := 22) (v := nI 2) G dL_implement_21 (by decide) rfl ?_
      refine jv_iret G hr dL_implement_22 (Nat.le_of_ble_eq_true rfl) (Nat.le_of_ble_eq_true rfl) ?_
      exact lP_n en (by decide) hR1 f1
    · have ec : cx = "java/lang/IllegalArgumentException" := by rw [y2, en]; rfl
      subst ec
      refine jv_catch (k := "java/lang/IllegalArgumentException") (q := 23) (a := [(0, 12, 15, 19), (0, 12, 19, 21)]) (x := (0, 12, 23, 27)) (b := [(0, 12, 27, 13)]) G ht rfl (by decide) (fun w hw => by
        simp only [List.mem_cons, List.not_mem_nil, or_false] at hw
        rcases hw with rfl | rfl
        · exact ⟨by decide, "java/lang/IndexOutOfBoundsException", by decide, ck_19, by decide⟩
        · exact ⟨by decide, "java/lang/IllegalStateException", by decide, ck_21, by decide⟩) (by decide) (by decide) ck_27 ct_27 rfl (fun v => ?_)
      refine jv_astore (q := 25) (lo' := [(5, .ref v), (0, .ref (z 6 0)), (1, .int p0), (2, .int p1), (3, .int p2), (4, .ref o)]) G dL_implement_23 (by decide) rfl rfl ?_
      refine jv_iconst (q := 26) (v := nI 3) G dL_implement_25 (by decide) rfl ?_
      refine jv_iret G hr dL_implement_26 (Nat.le_of_ble_eq_true rfl) (Nat.le_of_ble_eq_true rfl) ?_
      exact lP_n en (by decide) hR1 f1
    · have ec : cx = "java/lang/UnsupportedOperationException" := by rw [y2, en]; rfl
      subst ec
      refine jv_catch (k := "java/lang/UnsupportedOperationException") (q := 27) (a := [(0, 12, 15, 19), (0, 12, 19, 21), (0, 12, 23, 27)]) (x := (0, 12, 27, 13)) (b := []) G ht rfl (by decide) (fun w hw => by
        simp only [List.mem_cons, List.not_mem_nil, or_false] at hw
        rcases hw with rfl | rfl | rfl
        · exact ⟨by decide, "java/lang/IndexOutOfBoundsException", by decide, ck_19, by decide⟩
        · exact ⟨by decide, "java/lang/IllegalStateException", by decide, ck_21, by decide⟩
        · exact ⟨by decide, "java/lang/IllegalArgumentException", by decide, ck_27, by decide⟩) (by decide) (by decide) ck_13 ct_13 rfl (fun v => ?_)
      refine jv_astore (q := 29) (lo' := [(5, .ref v), (0, .ref (z 6 0)), (1, .int p0), (2, .int p1), (3, .int p2), (4, .ref o)]) G dL_implement_27 (by decide) rfl rfl ?_
      refine jv_iconst (q := 30) (v := nI 4) G dL_implement_29 (by decide) rfl ?_
      refine jv_iret G hr dL_implement_30 (Nat.le_of_ble_eq_true rfl) (Nat.le_of_ble_eq_true rfl) ?_
      exact lP_n en (by decide) hR1 f1
theorem le_member {M : mA} {p0 : Int32} {p1 : Int32} {p2 : Int32} {p3 : Int32} {p4 : Int32} {p5 : Int32} {p6 : Bool} {p7 : Int32} : (m_mb M p0 p1 p2 p3 p4 p5 p6 p7).1 ≤ 4 := by
  unfold m_mb
  refine opT_P (P := fun O => O.1 ≤ 4) (show (1 : Nat) ≤ 4 by decide) (show (2 : Nat) ≤ 4 by decide) (show (3 : Nat) ≤ 4 by decide) (fun k i t => ?_)
  repeat' split
  all_goals simp
set_option maxHeartbeats 4000000 in
set_option maxRecDepth 100000 in
theorem w_member {lA : Launch} (hlt : lA.stackTraces = false) {D : jv_D} {base : Nat} {z : Nat → Nat → Nat} {T : Nat → Nat} {N : Nat → Nat → Nat} {tO : Nat → Nat} {h : jv_H} {M : mA} (hR : cl_R z T N tO h M) {o : Nat} (ho : jv_sh h o = some (.inr (.long, 1))) {p0 : Int32} {p1 : Int32} {p2 : Int32} {p3 : Int32} {p4 : Int32} {p5 : Int32} {p6 : Bool} {p7 : Int32} : jv_Met lA D base yL_member (.codeWith yL_member cL_member 11 (some .int) [(0, 22, 25, 19), (0, 22, 29, 21), (0, 22, 33, 27), (0, 22, 37, 13)]) 5 4 24 [.ref (z 6 0), .int p0, .int p1, .int p2, .int p3, .int p4, .int p5, .int (jv_bI p6), .int p7, .ref o] h (lP z tO o h (m_mb M p0 p1 p2 p3 p4 p5 p6 p7)) jv_no := by
  refine jv_ofVH (lo := [(0, .ref (z 6 0)), (1, .int p0), (2, .int p1), (3, .int p2), (4, .int p3), (5, .int p4), (6, .int p5), (7, .int (jv_bI p6)), (8, .int p7), (9, .ref o)]) hlt (by decide) (Nat.le_of_ble_eq_true rfl) rfl (fun E hEl hEd hEz Z G hr ht hnm => ?_)
  subst hEl; subst hEd; subst hEz
  refine jv_aload (q := 2) G 9 dL_member_0 rfl rfl ?_
  refine jv_iconst (q := 3) (v := nI 0) G dL_member_2 (by decide) rfl ?_
  refine jv_aload_n (q := 4) G 0 dL_member_3 rfl rfl rfl ?_
  refine jv_iload_n (q := 5) G 1 dL_member_4 rfl rfl rfl ?_
  refine jv_iload_n (q := 6) G 2 dL_member_5 rfl rfl rfl ?_
  refine jv_iload_n (q := 7) G 3 dL_member_6 rfl rfl rfl ?_
  refine jv_iload (q := 9) G 4 dL_member_7 rfl rfl ?_
  refine jv_iload (q := 11) G 5 dL_member_9 rfl rfl ?_
  refine jv_iload (q := 13) G 6 dL_member_11 rfl rfl ?_
  refine jv_iload (q := 15) G 7 dL_member_13 rfl rfl ?_
  refine jv_iload (q := 17) G 8 dL_member_15 rfl rfl ?_
  refine jv_callV (q := 20) (As := [.int p0, .int p1, .int p2, .int p3, .int p4, .int p5, .int (jv_bI p6), .int p7]) (rest := [.int (nI 0), .ref o]) G Z ml_L_33 (k_member hlt hR) hR.1.1.1 dL_member_17 rfl (by decide) (by decide) (by decide) (by decide) (Nat.le_of_ble_eq_true rfl) rfl rfl (fun v1 h1 y1 => ?_) (fun cx h1 yx => ?_)
  · obtain ⟨e0, rfl, hR1, f1⟩ := y1
    show jv_V E 11 h1 (0 + 4) (0 + 24) (jv_Q E (lP z tO o h (m_mb M p0 p1 p2 p3 p4 p5 p6 p7)) jv_no 4 24) 20 [(0, .ref (z 6 0)), (1, .int p0), (2, .int p1), (3, .int p2), (4, .int p3), (5, .int p4), (6, .int p5), (7, .int (jv_bI p6)), (8, .int p7), (9, .ref o)] [.int ((m_mb M p0 p1 p2 p3 p4 p5 p6 p7).2.1), .int (nI 0), .ref o]
    refine jv_i2l (q := 21) G dL_member_20 rfl rfl ?_
    refine jv_last (q := 22) G dL_member_21 ((f1.sh o).trans ho) rfl (by omega) (by decide) rfl ?_
    refine jv_goto (q := 41) G dL_member_22 (by decide) ?_
    refine jv_iconst (q := 42) (v := nI 0) G dL_member_41 (by decide) rfl ?_
    refine jv_iret G hr dL_member_42 (Nat.le_of_ble_eq_true rfl) (Nat.le_of_ble_eq_true rfl) ?_
    exact lP_0 e0 hR1 f1 ho rfl
  · obtain ⟨n0, y2, hR1, f1⟩ := yx
    have hle := le_member (M := M) (p0 := p0) (p1 := p1) (p2 := p2) (p3 := p3) (p4 := p4) (p5 := p5) (p6 := p6) (p7 := p7)
    have n0 : ¬ (m_mb M p0 p1 p2 p3 p4 p5 p6 p7).1 = 0 := n0
    have alt : (m_mb M p0 p1 p2 p3 p4 p5 p6 p7).1 = 1 ∨ (m_mb M p0 p1 p2 p3 p4 p5 p6 p7).1 = 2 ∨ (m_mb M p0 p1 p2 p3 p4 p5 p6 p7).1 = 3 ∨ (m_mb M p0 p1 p2 p3 p4 p5 p6 p7).1 = 4 := by omega
    rcases alt with en | en | en | en
    · have ec : cx = "java/lang/IndexOutOfBoundsException" := by rw [y2, en]; rfl
      subst ec
      refine jv_catch (k := "java/lang/IndexOutOfBoundsException") (q := 25) (a := []) (x := (0, 22, 25, 19)) (b := [(0, 22, 29, 21), (0, 22, 33, 27), (0, 22, 37, 13)]) G ht rfl (by decide) (fun w hw => by cases hw) (by decide) (by decide) ck_19 ct_19 rfl (fun v => ?_)
      refine jv_astore (q := 27) (lo' := [(10, .ref v), (0, .ref (z 6 0)), (1, .int p0), (2, .int p1), (3, .int p2), (4, .int p3), (5, .int p4), (6, .int p5), (7, .int (jv_bI p6)), (8, .int p7), (9, .ref o)]) G dL_member_25 (by decide) rfl rfl ?_
      refine jv_iconst (q := 28) (v := nI 1) G dL_member_27 (by decide) rfl ?_
      refine jv_iret G hr dL_member_28 (Nat.le_of_ble_eq_true rfl) (Nat.le_of_ble_eq_true rfl) ?_
      exact lP_n en (by decide) hR1 f1
    · have ec : cx = "java/lang/IllegalStateException" := by rw [y2, en]; rfl
      subst ec
      refine jv_catch (k := "java/lang/IllegalStateException") (q := 29) (a := [(0, 22, 25, 19)]) (x := (0, 22, 29, 21)) (b := [(0, 22, 33, 27), (0, 22, 37, 13)]) G ht rfl (by decide) (fun w hw => by
        simp only [List.mem_cons, List.not_mem_nil, or_false] at hw
        subst hw
        exact ⟨by decide, "java/lang/IndexOutOfBoundsException", by decide, ck_19, by decide⟩) (by decide) (by decide) ck_21 ct_21 rfl (fun v => ?_)
      refine jv_astore (q := 31) (lo' := [(10, .ref v), (0, .ref (z 6 0)), (1, .int p0), (2, .int p1), (3, .int p2), (4, .int p3), (5, .int p4), (6, .int p5), (7, .int (jv_bI p6)), (8, .int p7), (9, .ref o)]) G dL_member_29 (by decide) rfl rfl ?_
      refine jv_iconst (q := 32) (v := nI 2) G dL_member_31 (by decide) rfl ?_
      refine jv_iret G hr dL_member_32 (Nat.le_of_ble_eq_true rfl) (Nat.le_of_ble_eq_true rfl) ?_
      exact lP_n en (by decide) hR1 f1
    · have ec : cx = "java/lang/IllegalArgumentException" := by rw [y2, en]; rfl
      subst ec
      refine jv_catch (k := "java/lang/IllegalArgumentException") (q := 33) (a := [(0, 22, 25, 19), (0, 22, 29, 21)]) (x := (0, 22, 33, 27)) (b := [(0, 22, 37, 13)]) G ht rfl (by decide) (fun w hw => by
        simp only [List.mem_cons, List.not_mem_nil, or_false] at hw
        rcases hw with rfl | rfl
        · exact ⟨by decide, "java/lang/IndexOutOfBoundsException", by decide, ck_19, by decide⟩
        · exact ⟨by decide, "java/lang/IllegalStateException", by decide, ck_21, by decide⟩) (by decide) (by decide) ck_27 ct_27 rfl (fun v => ?_)
      refine jv_astore (q := 35) (lo' := [(10, .ref v), (0, .ref (z 6 0)), (1, .int p0), (2, .int p1), (3, .int p2), (4, .int p3), (5, .int p4), (6, .int p5), (7, .int (jv_bI p6)), (8, .int p7), (9, .ref o)]) G dL_member_33 (by decide) rfl rfl ?_
      refine jv_iconst (q := 36) (v := nI 3) G dL_member_35 (by decide) rfl ?_
      refine jv_iret G hr dL_member_36 (Nat.le_of_ble_eq_true rfl) (Nat.le_of_ble_eq_true rfl) ?_
      exact lP_n en (by decide) hR1 f1
    · have ec : cx = "java/lang/UnsupportedOperationException" := by rw [y2, en]; rfl
      subst ec
      refine jv_catch (k := "java/lang/UnsupportedOperationException") (q := 37) (a := [(0, 22, 25, 19), (0, 22, 29, 21), (0, 22, 33, 27)]) (x := (0, 22, 37, 13)) (b := []) G ht rfl (by decide) (fun w hw => by
        simp only [List.mem_cons, List.not_mem_nil, or_false] at hw
        rcases hw with rfl | rfl | rfl
        · exact ⟨by decide, "java/lang/IndexOutOfBoundsException", by decide, ck_19, by decide⟩
        · exact ⟨by decide, "java/lang/IllegalStateException", by decide, ck_21, by decide⟩
        · exact ⟨by decide, "java/lang/IllegalArgumentException", by decide, ck_27, by decide⟩) (by decide) (by decide) ck_13 ct_13 rfl (fun v => ?_)
      refine jv_astore (q := 39) (lo' := [(10, .ref v), (0, .ref (z 6 0)), (1, .int p0), (2, .int p1), (3, .int p2), (4, .int p3), (5, .int p4), (6, .int p5), (7, .int (jv_bI p6)), (8, .int p7), (9, .ref o)]) G dL_member_37 (by decide) rfl rfl ?_
      refine jv_iconst (q := 40) (v := nI 4) G dL_member_39 (by decide) rfl ?_
      refine jv_iret G hr dL_member_40 (Nat.le_of_ble_eq_true rfl) (Nat.le_of_ble_eq_true rfl) ?_
      exact lP_n en (by decide) hR1 f1
theorem le_drop {M : mA} {p0 : Int32} {p1 : Int32} {p2 : Int32} {p3 : Int32} {p4 : Int32} : (m_dr M p0 p1 p2 p3 p4).1 ≤ 2 := by
  unfold m_dr
  refine opT_P (P := fun O => O.1 ≤ 2) (show (1 : Nat) ≤ 2 by decide) (show (2 : Nat) ≤ 2 by decide) (show (0 : Nat) ≤ 2 by decide) (fun k i t => ?_)
  repeat' split
  all_goals simp
theorem b01_drop {M : mA} {p0 : Int32} {p1 : Int32} {p2 : Int32} {p3 : Int32} {p4 : Int32} : (m_dr M p0 p1 p2 p3 p4).2.1 = 0 ∨ (m_dr M p0 p1 p2 p3 p4).2.1 = 1 := by
  unfold m_dr
  refine opT_P (P := fun O => O.2.1 = 0 ∨ O.2.1 = 1) (Or.inl rfl) (Or.inl rfl) (Or.inl rfl) (fun k i t => ?_)
  repeat' split
  all_goals first | exact Or.inl rfl | exact Or.inr rfl
set_option maxHeartbeats 4000000 in
set_option maxRecDepth 100000 in
theorem w_drop {lA : Launch} (hlt : lA.stackTraces = false) {D : jv_D} {base : Nat} {z : Nat → Nat → Nat} {T : Nat → Nat} {N : Nat → Nat → Nat} {tO : Nat → Nat} {h : jv_H} {M : mA} (hR : cl_R z T N tO h M) {o : Nat} (ho : jv_sh h o = some (.inr (.long, 1))) {p0 : Int32} {p1 : Int32} {p2 : Int32} {p3 : Int32} {p4 : Int32} : jv_Met lA D base yL_drop (.codeWith yL_drop cL_drop 8 (some .int) [(0, 23, 26, 19), (0, 23, 30, 21)]) 5 2 12 [.ref (z 6 0), .int p0, .int p1, .int p2, .int p3, .int p4, .ref o] h (lP z tO o h (m_dr M p0 p1 p2 p3 p4)) jv_no := by
  refine jv_ofVH (lo := [(0, .ref (z 6 0)), (1, .int p0), (2, .int p1), (3, .int p2), (4, .int p3), (5, .int p4), (6, .ref o)]) hlt (by decide) (Nat.le_of_ble_eq_true rfl) rfl (fun E hEl hEd hEz Z G hr ht hnm => ?_)
  subst hEl; subst hEd; subst hEz
  refine jv_aload (q := 2) G 6 dL_drop_0 rfl rfl ?_
  refine jv_iconst (q := 3) (v := nI 0) G dL_drop_2 (by decide) rfl ?_
  refine jv_aload_n (q := 4) G 0 dL_drop_3 rfl rfl rfl ?_
  refine jv_iload_n (q := 5) G 1 dL_drop_4 rfl rfl rfl ?_
  refine jv_iload_n (q := 6) G 2 dL_drop_5 rfl rfl rfl ?_
  refine jv_iload_n (q := 7) G 3 dL_drop_6 rfl rfl rfl ?_
  refine jv_iload (q := 9) G 4 dL_drop_7 rfl rfl ?_
  refine jv_iload (q := 11) G 5 dL_drop_9 rfl rfl ?_
  refine jv_callV (q := 14) (As := [.int p0, .int p1, .int p2, .int p3, .int p4]) (rest := [.int (nI 0), .ref o]) G Z ml_L_37 (k_drop hlt hR) hR.1.1.1 dL_drop_11 rfl (by decide) (by decide) (by decide) (by decide) (Nat.le_of_ble_eq_true rfl) rfl rfl (fun v1 h1 y1 => ?_) (fun cx h1 yx => ?_)
  · obtain ⟨e0, rfl, hR1, f1⟩ := y1
    show jv_V E 8 h1 (0 + 2) (0 + 12) (jv_Q E (lP z tO o h (m_dr M p0 p1 p2 p3 p4)) jv_no 2 12) 14 [(0, .ref (z 6 0)), (1, .int p0), (2, .int p1), (3, .int p2), (4, .int p3), (5, .int p4), (6, .ref o)] [.int ((m_dr M p0 p1 p2 p3 p4).2.1), .int (nI 0), .ref o]
    refine jv_if_eq (q := 17) (tgt := 21) G dL_drop_14 (by decide) rfl (fun c1 => ?_) (fun c1 => ?_)
    · refine jv_lconst (q := 22) (v := 0) G dL_drop_21 (by decide) rfl ?_
      refine jv_last (q := 23) G dL_drop_22 ((f1.sh o).trans ho) rfl (by omega) (by decide) rfl ?_
      refine jv_goto (q := 34) G dL_drop_23 (by decide) ?_
      refine jv_iconst (q := 35) (v := nI 0) G dL_drop_34 (by decide) rfl ?_
      refine jv_iret G hr dL_drop_35 (Nat.le_of_ble_eq_true rfl) (Nat.le_of_ble_eq_true rfl) ?_
      exact lP_0 e0 hR1 f1 ho (by rw [c1]; rfl)
    · refine jv_lconst (q := 18) (v := 1) G dL_drop_17 (by decide) rfl ?_
      refine jv_goto (q := 22) G dL_drop_18 (by decide) ?_
      refine jv_last (q := 23) G dL_drop_22 ((f1.sh o).trans ho) rfl (by omega) (by decide) rfl ?_
      refine jv_goto (q := 34) G dL_drop_23 (by decide) ?_
      refine jv_iconst (q := 35) (v := nI 0) G dL_drop_34 (by decide) rfl ?_
      refine jv_iret G hr dL_drop_35 (Nat.le_of_ble_eq_true rfl) (Nat.le_of_ble_eq_true rfl) ?_
      exact lP_0 e0 hR1 f1 ho (by rw [b01_drop.resolve_left c1]; rfl)
  · obtain ⟨n0, y2, hR1, f1⟩ := yx
    have hle := le_drop (M := M) (p0 := p0) (p1 := p1) (p2 := p2) (p3 := p3) (p4 := p4)
    have n0 : ¬ (m_dr M p0 p1 p2 p3 p4).1 = 0 := n0
    have alt : (m_dr M p0 p1 p2 p3 p4).1 = 1 ∨ (m_dr M p0 p1 p2 p3 p4).1 = 2 := by omega
    rcases alt with en | en
    · have ec : cx = "java/lang/IndexOutOfBoundsException" := by rw [y2, en]; rfl
      subst ec
      refine jv_catch (k := "java/lang/IndexOutOfBoundsException") (q := 26) (a := []) (x := (0, 23, 26, 19)) (b := [(0, 23, 30, 21)]) G ht rfl (by decide) (fun w hw => by cases hw) (by decide) (by decide) ck_19 ct_19 rfl (fun v => ?_)
      refine jv_astore (q := 28) (lo' := [(7, .ref v), (0, .ref (z 6 0)), (1, .int p0), (2, .int p1), (3, .int p2), (4, .int p3), (5, .int p4), (6, .ref o)]) G dL_drop_26 (by decide) rfl rfl ?_
      refine jv_iconst (q := 29) (v := nI 1) G dL_drop_28 (by decide) rfl ?_
      refine jv_iret G hr dL_drop_29 (Nat.le_of_ble_eq_true rfl) (Nat.le_of_ble_eq_true rfl) ?_
      exact lP_n en (by decide) hR1 f1
    · have ec : cx = "java/lang/IllegalStateException" := by rw [y2, en]; rfl
      subst ec
      refine jv_catch (k := "java/lang/IllegalStateException") (q := 30) (a := [(0, 23, 26, 19)]) (x := (0, 23, 30, 21)) (b := []) G ht rfl (by decide) (fun w hw => by
        simp only [List.mem_cons, List.not_mem_nil, or_false] at hw
        subst hw
        exact ⟨by decide, "java/lang/IndexOutOfBoundsException", by decide, ck_19, by decide⟩) (by decide) (by decide) ck_21 ct_21 rfl (fun v => ?_)
      refine jv_astore (q := 32) (lo' := [(7, .ref v), (0, .ref (z 6 0)), (1, .int p0), (2, .int p1), (3, .int p2), (4, .int p3), (5, .int p4), (6, .ref o)]) G dL_drop_30 (by decide) rfl rfl ?_
      refine jv_iconst (q := 33) (v := nI 2) G dL_drop_32 (by decide) rfl ?_
      refine jv_iret G hr dL_drop_33 (Nat.le_of_ble_eq_true rfl) (Nat.le_of_ble_eq_true rfl) ?_
      exact lP_n en (by decide) hR1 f1
theorem le_seal {M : mA} {p0 : Int32} : (m_sa M p0).1 ≤ 2 := by
  unfold m_sa
  refine op_P (P := fun O => O.1 ≤ 2) (show (1 : Nat) ≤ 2 by decide) (show (2 : Nat) ≤ 2 by decide) (fun k => ?_)
  repeat' split
  all_goals simp
set_option maxHeartbeats 4000000 in
set_option maxRecDepth 100000 in
theorem w_seal {lA : Launch} (hlt : lA.stackTraces = false) {D : jv_D} {base : Nat} {z : Nat → Nat → Nat} {T : Nat → Nat} {N : Nat → Nat → Nat} {tO : Nat → Nat} {h : jv_H} {M : mA} (hR : cl_R z T N tO h M) {o : Nat} (ho : jv_sh h o = some (.inr (.long, 1))) {p0 : Int32} : jv_Met lA D base yL_seal (.codeWith yL_seal cL_seal 4 (some .int) [(0, 9, 12, 19), (0, 9, 15, 21)]) 28 2 12 [.ref (z 6 0), .int p0, .ref o] h (lP z tO o h (m_sa M p0)) jv_no := by
  refine jv_ofVH (lo := [(0, .ref (z 6 0)), (1, .int p0), (2, .ref o)]) hlt (by decide) (Nat.le_of_ble_eq_true rfl) rfl (fun E hEl hEd hEz Z G hr ht hnm => ?_)
  subst hEl; subst hEd; subst hEz
  refine jv_aload_n (q := 1) G 2 dL_seal_0 rfl rfl rfl ?_
  refine jv_iconst (q := 2) (v := nI 0) G dL_seal_1 (by decide) rfl ?_
  refine jv_aload_n (q := 3) G 0 dL_seal_2 rfl rfl rfl ?_
  refine jv_iload_n (q := 4) G 1 dL_seal_3 rfl rfl rfl ?_
  refine jv_callV (q := 7) (As := [.int p0]) (rest := [.int (nI 0), .ref o]) G Z ml_L_41 (k_seal hlt hR) hR.1.1.1 dL_seal_4 rfl (by decide) (by decide) (by decide) (by decide) (Nat.le_of_ble_eq_true rfl) rfl rfl (fun v1 h1 y1 => ?_) (fun cx h1 yx => ?_)
  · obtain ⟨e0, rfl, hR1, f1⟩ := y1
    show jv_V E 4 h1 (0 + 2) (0 + 12) (jv_Q E (lP z tO o h (m_sa M p0)) jv_no 2 12) 7 [(0, .ref (z 6 0)), (1, .int p0), (2, .ref o)] [.int ((m_sa M p0).2.1), .int (nI 0), .ref o]
    refine jv_i2l (q := 8) G dL_seal_7 rfl rfl ?_
    refine jv_last (q := 9) G dL_seal_8 ((f1.sh o).trans ho) rfl (by omega) (by decide) rfl ?_
    refine jv_goto (q := 18) G dL_seal_9 (by decide) ?_
    refine jv_iconst (q := 19) (v := nI 0) G dL_seal_18 (by decide) rfl ?_
    refine jv_iret G hr dL_seal_19 (Nat.le_of_ble_eq_true rfl) (Nat.le_of_ble_eq_true rfl) ?_
    exact lP_0 e0 hR1 f1 ho rfl
  · obtain ⟨n0, y2, hR1, f1⟩ := yx
    have hle := le_seal (M := M) (p0 := p0)
    have n0 : ¬ (m_sa M p0).1 = 0 := n0
    have alt : (m_sa M p0).1 = 1 ∨ (m_sa M p0).1 = 2 := by omega
    rcases alt with en | en
    · have ec : cx = "java/lang/IndexOutOfBoundsException" := by rw [y2, en]; rfl
      subst ec
      refine jv_catch (k := "java/lang/IndexOutOfBoundsException") (q := 12) (a := []) (x := (0, 9, 12, 19)) (b := [(0, 9, 15, 21)]) G ht rfl (by decide) (fun w hw => by cases hw) (by decide) (by decide) ck_19 ct_19 rfl (fun v => ?_)
      refine jv_astore_n (q := 13) (lo' := [(3, .ref v), (0, .ref (z 6 0)), (1, .int p0), (2, .ref o)]) G dL_seal_12 rfl (by decide) rfl rfl ?_
      refine jv_iconst (q := 14) (v := nI 1) G dL_seal_13 (by decide) rfl ?_
      refine jv_iret G hr dL_seal_14 (Nat.le_of_ble_eq_true rfl) (Nat.le_of_ble_eq_true rfl) ?_
      exact lP_n en (by decide) hR1 f1
    · have ec : cx = "java/lang/IllegalStateException" := by rw [y2, en]; rfl
      subst ec
      refine jv_catch (k := "java/lang/IllegalStateException") (q := 15) (a := [(0, 9, 12, 19)]) (x := (0, 9, 15, 21)) (b := []) G ht rfl (by decide) (fun w hw => by
        simp only [List.mem_cons, List.not_mem_nil, or_false] at hw
        subst hw
        exact ⟨by decide, "java/lang/IndexOutOfBoundsException", by decide, ck_19, by decide⟩) (by decide) (by decide) ck_21 ct_21 rfl (fun v => ?_)
      refine jv_astore_n (q := 16) (lo' := [(3, .ref v), (0, .ref (z 6 0)), (1, .int p0), (2, .ref o)]) G dL_seal_15 rfl (by decide) rfl rfl ?_
      refine jv_iconst (q := 17) (v := nI 2) G dL_seal_16 (by decide) rfl ?_
      refine jv_iret G hr dL_seal_17 (Nat.le_of_ble_eq_true rfl) (Nat.le_of_ble_eq_true rfl) ?_
      exact lP_n en (by decide) hR1 f1
theorem le_above {M : mA} {p0 : Int32} {p1 : Int32} {p2 : Int32} : ((m_seF M p0, m_above M p0 p1 p2, M)).1 ≤ 2 := by
  show m_seF M p0 ≤ 2
  unfold m_seF
  repeat' split
  all_goals first | decide | simp
theorem b01_above {M : mA} {p0 : Int32} {p1 : Int32} {p2 : Int32} : ((m_seF M p0, m_above M p0 p1 p2, M)).2.1 = 0 ∨ ((m_seF M p0, m_above M p0 p1 p2, M)).2.1 = 1 := by
  show m_above M p0 p1 p2 = 0 ∨ m_above M p0 p1 p2 = 1
  unfold m_above
  split
  · exact Or.inl rfl
  · next k _ => cases m_isA (ma_t M k) p1 p2 <;> first | exact Or.inl rfl | exact Or.inr rfl
set_option maxHeartbeats 4000000 in
set_option maxRecDepth 100000 in
theorem w_above {lA : Launch} (hlt : lA.stackTraces = false) {D : jv_D} {base : Nat} {z : Nat → Nat → Nat} {T : Nat → Nat} {N : Nat → Nat → Nat} {tO : Nat → Nat} {h : jv_H} {M : mA} (hR : cl_R z T N tO h M) {o : Nat} (ho : jv_sh h o = some (.inr (.long, 1))) {p0 : Int32} {p1 : Int32} {p2 : Int32} : jv_Met lA D base yL_above (.codeWith yL_above cL_above 6 (some .int) [(0, 19, 22, 19), (0, 19, 26, 21)]) 5 2 12 [.ref (z 6 0), .int p0, .int p1, .int p2, .ref o] h (lP z tO o h ((m_seF M p0, m_above M p0 p1 p2, M))) jv_no := by
  refine jv_ofVH (lo := [(0, .ref (z 6 0)), (1, .int p0), (2, .int p1), (3, .int p2), (4, .ref o)]) hlt (by decide) (Nat.le_of_ble_eq_true rfl) rfl (fun E hEl hEd hEz Z G hr ht hnm => ?_)
  subst hEl; subst hEd; subst hEz
  refine jv_aload (q := 2) G 4 dL_above_0 rfl rfl ?_
  refine jv_iconst (q := 3) (v := nI 0) G dL_above_2 (by decide) rfl ?_
  refine jv_aload_n (q := 4) G 0 dL_above_3 rfl rfl rfl ?_
  refine jv_iload_n (q := 5) G 1 dL_above_4 rfl rfl rfl ?_
  refine jv_iload_n (q := 6) G 2 dL_above_5 rfl rfl rfl ?_
  refine jv_iload_n (q := 7) G 3 dL_above_6 rfl rfl rfl ?_
  refine jv_callV (q := 10) (As := [.int p0, .int p1, .int p2]) (rest := [.int (nI 0), .ref o]) G Z ml_L_44 (k_above hlt hR) hR.1.1.1 dL_above_7 rfl (by decide) (by decide) (by decide) (by decide) (Nat.le_of_ble_eq_true rfl) rfl rfl (fun v1 h1 y1 => ?_) (fun cx h1 yx => ?_)
  · obtain ⟨e0, rfl, hR1, f1⟩ := y1
    show jv_V E 6 h1 (0 + 2) (0 + 12) (jv_Q E (lP z tO o h ((m_seF M p0, m_above M p0 p1 p2, M))) jv_no 2 12) 10 [(0, .ref (z 6 0)), (1, .int p0), (2, .int p1), (3, .int p2), (4, .ref o)] [.int (((m_seF M p0, m_above M p0 p1 p2, M)).2.1), .int (nI 0), .ref o]
    refine jv_if_eq (q := 13) (tgt := 17) G dL_above_10 (by decide) rfl (fun c1 => ?_) (fun c1 => ?_)
    · refine jv_lconst (q := 18) (v := 0) G dL_above_17 (by decide) rfl ?_
      refine jv_last (q := 19) G dL_above_18 ((f1.sh o).trans ho) rfl (by omega) (by decide) rfl ?_
      refine jv_goto (q := 30) G dL_above_19 (by decide) ?_
      refine jv_iconst (q := 31) (v := nI 0) G dL_above_30 (by decide) rfl ?_
      refine jv_iret G hr dL_above_31 (Nat.le_of_ble_eq_true rfl) (Nat.le_of_ble_eq_true rfl) ?_
      exact lP_0 e0 hR1 f1 ho (by rw [c1]; rfl)
    · refine jv_lconst (q := 14) (v := 1) G dL_above_13 (by decide) rfl ?_
      refine jv_goto (q := 18) G dL_above_14 (by decide) ?_
      refine jv_last (q := 19) G dL_above_18 ((f1.sh o).trans ho) rfl (by omega) (by decide) rfl ?_
      refine jv_goto (q := 30) G dL_above_19 (by decide) ?_
      refine jv_iconst (q := 31) (v := nI 0) G dL_above_30 (by decide) rfl ?_
      refine jv_iret G hr dL_above_31 (Nat.le_of_ble_eq_true rfl) (Nat.le_of_ble_eq_true rfl) ?_
      exact lP_0 e0 hR1 f1 ho (by rw [b01_above.resolve_left c1]; rfl)
  · obtain ⟨n0, y2, hR1, f1⟩ := yx
    have hle := le_above (M := M) (p0 := p0) (p1 := p1) (p2 := p2)
    have n0 : ¬ ((m_seF M p0, m_above M p0 p1 p2, M)).1 = 0 := n0
    have alt : ((m_seF M p0, m_above M p0 p1 p2, M)).1 = 1 ∨ ((m_seF M p0, m_above M p0 p1 p2, M)).1 = 2 := by omega
    rcases alt with en | en
    · have ec : cx = "java/lang/IndexOutOfBoundsException" := by rw [y2, en]; rfl
      subst ec
      refine jv_catch (k := "java/lang/IndexOutOfBoundsException") (q := 22) (a := []) (x := (0, 19, 22, 19)) (b := [(0, 19, 26, 21)]) G ht rfl (by decide) (fun w hw => by cases hw) (by decide) (by decide) ck_19 ct_19 rfl (fun v => ?_)
      refine jv_astore (q := 24) (lo' := [(5, .ref v), (0, .ref (z 6 0)), (1, .int p0), (2, .int p1), (3, .int p2), (4, .ref o)]) G dL_above_22 (by decide) rfl rfl ?_
      refine jv_iconst (q := 25) (v := nI 1) G dL_above_24 (by decide) rfl ?_
      refine jv_iret G hr dL_above_25 (Nat.le_of_ble_eq_true rfl) (Nat.le_of_ble_eq_true rfl) ?_
      exact lP_n en (by decide) hR1 f1
    · have ec : cx = "java/lang/IllegalStateException" := by rw [y2, en]; rfl
      subst ec
      refine jv_catch (k := "java/lang/IllegalStateException") (q := 26) (a := [(0, 19, 22, 19)]) (x := (0, 19, 26, 21)) (b := []) G ht rfl (by decide) (fun w hw => by
        simp only [List.mem_cons, List.not_mem_nil, or_false] at hw
        subst hw
        exact ⟨by decide, "java/lang/IndexOutOfBoundsException", by decide, ck_19, by decide⟩) (by decide) (by decide) ck_21 ct_21 rfl (fun v => ?_)
      refine jv_astore (q := 28) (lo' := [(5, .ref v), (0, .ref (z 6 0)), (1, .int p0), (2, .int p1), (3, .int p2), (4, .ref o)]) G dL_above_26 (by decide) rfl rfl ?_
      refine jv_iconst (q := 29) (v := nI 2) G dL_above_28 (by decide) rfl ?_
      refine jv_iret G hr dL_above_29 (Nat.le_of_ble_eq_true rfl) (Nat.le_of_ble_eq_true rfl) ?_
      exact lP_n en (by decide) hR1 f1
theorem le_find {M : mA} {p0 : Int32} {p1 : Int32} {p2 : Bool} {p3 : Int32} {p4 : Int32} : ((m_seF M p0, m_find M p0 p1 p2 p3 p4, M)).1 ≤ 2 := by
  show m_seF M p0 ≤ 2
  unfold m_seF
  repeat' split
  all_goals first | decide | simp
set_option maxHeartbeats 4000000 in
set_option maxRecDepth 100000 in
theorem w_find {lA : Launch} (hlt : lA.stackTraces = false) {D : jv_D} {base : Nat} {z : Nat → Nat → Nat} {T : Nat → Nat} {N : Nat → Nat → Nat} {tO : Nat → Nat} {h : jv_H} {M : mA} (hR : cl_R z T N tO h M) {o : Nat} (ho : jv_sh h o = some (.inr (.long, 1))) {p0 : Int32} {p1 : Int32} {p2 : Bool} {p3 : Int32} {p4 : Int32} : jv_Met lA D base yL_find (.codeWith yL_find cL_find 8 (some .int) [(0, 16, 19, 19), (0, 16, 23, 21)]) 5 2 12 [.ref (z 6 0), .int p0, .int p1, .int (jv_bI p2), .int p3, .int p4, .ref o] h (lP z tO o h ((m_seF M p0, m_find M p0 p1 p2 p3 p4, M))) jv_no := by
  refine jv_ofVH (lo := [(0, .ref (z 6 0)), (1, .int p0), (2, .int p1), (3, .int (jv_bI p2)), (4, .int p3), (5, .int p4), (6, .ref o)]) hlt (by decide) (Nat.le_of_ble_eq_true rfl) rfl (fun E hEl hEd hEz Z G hr ht hnm => ?_)
  subst hEl; subst hEd; subst hEz
  refine jv_aload (q := 2) G 6 dL_find_0 rfl rfl ?_
  refine jv_iconst (q := 3) (v := nI 0) G dL_find_2 (by decide) rfl ?_
  refine jv_aload_n (q := 4) G 0 dL_find_3 rfl rfl rfl ?_
  refine jv_iload_n (q := 5) G 1 dL_find_4 rfl rfl rfl ?_
  refine jv_iload_n (q := 6) G 2 dL_find_5 rfl rfl rfl ?_
  refine jv_iload_n (q := 7) G 3 dL_find_6 rfl rfl rfl ?_
  refine jv_iload (q := 9) G 4 dL_find_7 rfl rfl ?_
  refine jv_iload (q := 11) G 5 dL_find_9 rfl rfl ?_
  refine jv_callV (q := 14) (As := [.int p0, .int p1, .int (jv_bI p2), .int p3, .int p4]) (rest := [.int (nI 0), .ref o]) G Z ml_L_48 (k_find hlt hR) hR.1.1.1 dL_find_11 rfl (by decide) (by decide) (by decide) (by decide) (Nat.le_of_ble_eq_true rfl) rfl rfl (fun v1 h1 y1 => ?_) (fun cx h1 yx => ?_)
  · obtain ⟨e0, rfl, hR1, f1⟩ := y1
    show jv_V E 8 h1 (0 + 2) (0 + 12) (jv_Q E (lP z tO o h ((m_seF M p0, m_find M p0 p1 p2 p3 p4, M))) jv_no 2 12) 14 [(0, .ref (z 6 0)), (1, .int p0), (2, .int p1), (3, .int (jv_bI p2)), (4, .int p3), (5, .int p4), (6, .ref o)] [.int (((m_seF M p0, m_find M p0 p1 p2 p3 p4, M)).2.1), .int (nI 0), .ref o]
    refine jv_i2l (q := 15) G dL_find_14 rfl rfl ?_
    refine jv_last (q := 16) G dL_find_15 ((f1.sh o).trans ho) rfl (by omega) (by decide) rfl ?_
    refine jv_goto (q := 27) G dL_find_16 (by decide) ?_
    refine jv_iconst (q := 28) (v := nI 0) G dL_find_27 (by decide) rfl ?_
    refine jv_iret G hr dL_find_28 (Nat.le_of_ble_eq_true rfl) (Nat.le_of_ble_eq_true rfl) ?_
    exact lP_0 e0 hR1 f1 ho rfl
  · obtain ⟨n0, y2, hR1, f1⟩ := yx
    have hle := le_find (M := M) (p0 := p0) (p1 := p1) (p2 := p2) (p3 := p3) (p4 := p4)
    have n0 : ¬ ((m_seF M p0, m_find M p0 p1 p2 p3 p4, M)).1 = 0 := n0
    have alt : ((m_seF M p0, m_find M p0 p1 p2 p3 p4, M)).1 = 1 ∨ ((m_seF M p0, m_find M p0 p1 p2 p3 p4, M)).1 = 2 := by omega
    rcases alt with en | en
    · have ec : cx = "java/lang/IndexOutOfBoundsException" := by rw [y2, en]; rfl
      subst ec
      refine jv_catch (k := "java/lang/IndexOutOfBoundsException") (q := 19) (a := []) (x := (0, 16, 19, 19)) (b := [(0, 16, 23, 21)]) G ht rfl (by decide) (fun w hw => by cases hw) (by decide) (by decide) ck_19 ct_19 rfl (fun v => ?_)
      refine jv_astore (q := 21) (lo' := [(7, .ref v), (0, .ref (z 6 0)), (1, .int p0), (2, .int p1), (3, .int (jv_bI p2)), (4, .int p3), (5, .int p4), (6, .ref o)]) G dL_find_19 (by decide) rfl rfl ?_
      refine jv_iconst (q := 22) (v := nI 1) G dL_find_21 (by decide) rfl ?_
      refine jv_iret G hr dL_find_22 (Nat.le_of_ble_eq_true rfl) (Nat.le_of_ble_eq_true rfl) ?_
      exact lP_n en (by decide) hR1 f1
    · have ec : cx = "java/lang/IllegalStateException" := by rw [y2, en]; rfl
      subst ec
      refine jv_catch (k := "java/lang/IllegalStateException") (q := 23) (a := [(0, 16, 19, 19)]) (x := (0, 16, 23, 21)) (b := []) G ht rfl (by decide) (fun w hw => by
        simp only [List.mem_cons, List.not_mem_nil, or_false] at hw
        subst hw
        exact ⟨by decide, "java/lang/IndexOutOfBoundsException", by decide, ck_19, by decide⟩) (by decide) (by decide) ck_21 ct_21 rfl (fun v => ?_)
      refine jv_astore (q := 25) (lo' := [(7, .ref v), (0, .ref (z 6 0)), (1, .int p0), (2, .int p1), (3, .int (jv_bI p2)), (4, .int p3), (5, .int p4), (6, .ref o)]) G dL_find_23 (by decide) rfl rfl ?_
      refine jv_iconst (q := 26) (v := nI 2) G dL_find_25 (by decide) rfl ?_
      refine jv_iret G hr dL_find_26 (Nat.le_of_ble_eq_true rfl) (Nat.le_of_ble_eq_true rfl) ?_
      exact lP_n en (by decide) hR1 f1
theorem le_select {M : mA} {p0 : Int32} {p1 : Int32} {p2 : Int32} {p3 : Int32} {p4 : Int32} : ((m_seF M p0, m_select M p0 p1 p2 p3 p4, M)).1 ≤ 2 := by
  show m_seF M p0 ≤ 2
  unfold m_seF
  repeat' split
  all_goals first | decide | simp
set_option maxHeartbeats 4000000 in
set_option maxRecDepth 100000 in
theorem w_select {lA : Launch} (hlt : lA.stackTraces = false) {D : jv_D} {base : Nat} {z : Nat → Nat → Nat} {T : Nat → Nat} {N : Nat → Nat → Nat} {tO : Nat → Nat} {h : jv_H} {M : mA} (hR : cl_R z T N tO h M) {o : Nat} (ho : jv_sh h o = some (.inr (.long, 1))) {p0 : Int32} {p1 : Int32} {p2 : Int32} {p3 : Int32} {p4 : Int32} : jv_Met lA D base yL_select (.codeWith yL_select cL_select 8 (some .int) [(0, 16, 19, 19), (0, 16, 23, 21)]) 6 2 12 [.ref (z 6 0), .int p0, .int p1, .int p2, .int p3, .int p4, .ref o] h (lP z tO o h ((m_seF M p0, m_select M p0 p1 p2 p3 p4, M))) jv_no := by
  refine jv_ofVH (lo := [(0, .ref (z 6 0)), (1, .int p0), (2, .int p1), (3, .int p2), (4, .int p3), (5, .int p4), (6, .ref o)]) hlt (by decide) (Nat.le_of_ble_eq_true rfl) rfl (fun E hEl hEd hEz Z G hr ht hnm => ?_)
  subst hEl; subst hEd; subst hEz
  refine jv_aload (q := 2) G 6 dL_select_0 rfl rfl ?_
  refine jv_iconst (q := 3) (v := nI 0) G dL_select_2 (by decide) rfl ?_
  refine jv_aload_n (q := 4) G 0 dL_select_3 rfl rfl rfl ?_
  refine jv_iload_n (q := 5) G 1 dL_select_4 rfl rfl rfl ?_
  refine jv_iload_n (q := 6) G 2 dL_select_5 rfl rfl rfl ?_
  refine jv_iload_n (q := 7) G 3 dL_select_6 rfl rfl rfl ?_
  refine jv_iload (q := 9) G 4 dL_select_7 rfl rfl ?_
  refine jv_iload (q := 11) G 5 dL_select_9 rfl rfl ?_
  refine jv_callV (q := 14) (As := [.int p0, .int p1, .int p2, .int p3, .int p4]) (rest := [.int (nI 0), .ref o]) G Z ml_L_52 (k_select hlt hR) hR.1.1.1 dL_select_11 rfl (by decide) (by decide) (by decide) (by decide) (Nat.le_of_ble_eq_true rfl) rfl rfl (fun v1 h1 y1 => ?_) (fun cx h1 yx => ?_)
  · obtain ⟨e0, rfl, hR1, f1⟩ := y1
    show jv_V E 8 h1 (0 + 2) (0 + 12) (jv_Q E (lP z tO o h ((m_seF M p0, m_select M p0 p1 p2 p3 p4, M))) jv_no 2 12) 14 [(0, .ref (z 6 0)), (1, .int p0), (2, .int p1), (3, .int p2), (4, .int p3), (5, .int p4), (6, .ref o)] [.int (((m_seF M p0, m_select M p0 p1 p2 p3 p4, M)).2.1), .int (nI 0), .ref o]
    refine jv_i2l (q := 15) G dL_select_14 rfl rfl ?_
    refine jv_last (q := 16) G dL_select_15 ((f1.sh o).trans ho) rfl (by omega) (by decide) rfl ?_
    refine jv_goto (q := 27) G dL_select_16 (by decide) ?_
    refine jv_iconst (q := 28) (v := nI 0) G dL_select_27 (by decide) rfl ?_
    refine jv_iret G hr dL_select_28 (Nat.le_of_ble_eq_true rfl) (Nat.le_of_ble_eq_true rfl) ?_
    exact lP_0 e0 hR1 f1 ho rfl
  · obtain ⟨n0, y2, hR1, f1⟩ := yx
    have hle := le_select (M := M) (p0 := p0) (p1 := p1) (p2 := p2) (p3 := p3) (p4 := p4)
    have n0 : ¬ ((m_seF M p0, m_select M p0 p1 p2 p3 p4, M)).1 = 0 := n0
    have alt : ((m_seF M p0, m_select M p0 p1 p2 p3 p4, M)).1 = 1 ∨ ((m_seF M p0, m_select M p0 p1 p2 p3 p4, M)).1 = 2 := by omega
    rcases alt with en | en
    · have ec : cx = "java/lang/IndexOutOfBoundsException" := by rw [y2, en]; rfl
      subst ec
      refine jv_catch (k := "java/lang/IndexOutOfBoundsException") (q := 19) (a := []) (x := (0, 16, 19, 19)) (b := [(0, 16, 23, 21)]) G ht rfl (by decide) (fun w hw => by cases hw) (by decide) (by decide) ck_19 ct_19 rfl (fun v => ?_)
      refine jv_astore (q := 21) (lo' := [(7, .ref v), (0, .ref (z 6 0)), (1, .int p0), (2, .int p1), (3, .int p2), (4, .int p3), (5, .int p4), (6, .ref o)]) G dL_select_19 (by decide) rfl rfl ?_
      refine jv_iconst (q := 22) (v := nI 1) G dL_select_21 (by decide) rfl ?_
      refine jv_iret G hr dL_select_22 (Nat.le_of_ble_eq_true rfl) (Nat.le_of_ble_eq_true rfl) ?_
      exact lP_n en (by decide) hR1 f1
    · have ec : cx = "java/lang/IllegalStateException" := by rw [y2, en]; rfl
      subst ec
      refine jv_catch (k := "java/lang/IllegalStateException") (q := 23) (a := [(0, 16, 19, 19)]) (x := (0, 16, 23, 21)) (b := []) G ht rfl (by decide) (fun w hw => by
        simp only [List.mem_cons, List.not_mem_nil, or_false] at hw
        subst hw
        exact ⟨by decide, "java/lang/IndexOutOfBoundsException", by decide, ck_19, by decide⟩) (by decide) (by decide) ck_21 ct_21 rfl (fun v => ?_)
      refine jv_astore (q := 25) (lo' := [(7, .ref v), (0, .ref (z 6 0)), (1, .int p0), (2, .int p1), (3, .int p2), (4, .int p3), (5, .int p4), (6, .ref o)]) G dL_select_23 (by decide) rfl rfl ?_
      refine jv_iconst (q := 26) (v := nI 2) G dL_select_25 (by decide) rfl ?_
      refine jv_iret G hr dL_select_26 (Nat.le_of_ble_eq_true rfl) (Nat.le_of_ble_eq_true rfl) ?_
      exact lP_n en (by decide) hR1 f1
theorem le_caller {M : mA} {p0 : Int32} {p1 : Int32} {p2 : Int32} : (m_ca M p0 p1 p2).1 ≤ 4 := by
  unfold m_ca
  refine cl_P (P := fun O => O.1 ≤ 4) (show (1 : Nat) ≤ 4 by decide) (show (2 : Nat) ≤ 4 by decide) (fun k => ?_)
  repeat' split
  all_goals simp
set_option maxHeartbeats 4000000 in
set_option maxRecDepth 100000 in
theorem w_caller {lA : Launch} (hlt : lA.stackTraces = false) {D : jv_D} {base : Nat} {z : Nat → Nat → Nat} {T : Nat → Nat} {N : Nat → Nat → Nat} {tO : Nat → Nat} {h : jv_H} {M : mA} (hR : cl_R z T N tO h M) {o : Nat} (ho : jv_sh h o = some (.inr (.long, 1))) {p0 : Int32} {p1 : Int32} {p2 : Int32} : jv_Met lA D base yL_caller (.codeWith yL_caller cL_caller 6 (some .int) [(0, 12, 15, 19), (0, 12, 19, 21), (0, 12, 23, 27), (0, 12, 27, 13)]) 5 3 18 [.ref (z 6 0), .int p0, .int p1, .int p2, .ref o] h (lP z tO o h (m_ca M p0 p1 p2)) jv_no := by
  refine jv_ofVH (lo := [(0, .ref (z 6 0)), (1, .int p0), (2, .int p1), (3, .int p2), (4, .ref o)]) hlt (by decide) (Nat.le_of_ble_eq_true rfl) rfl (fun E hEl hEd hEz Z G hr ht hnm => ?_)
  subst hEl; subst hEd; subst hEz
  refine jv_aload (q := 2) G 4 dL_caller_0 rfl rfl ?_
  refine jv_iconst (q := 3) (v := nI 0) G dL_caller_2 (by decide) rfl ?_
  refine jv_aload_n (q := 4) G 0 dL_caller_3 rfl rfl rfl ?_
  refine jv_iload_n (q := 5) G 1 dL_caller_4 rfl rfl rfl ?_
  refine jv_iload_n (q := 6) G 2 dL_caller_5 rfl rfl rfl ?_
  refine jv_iload_n (q := 7) G 3 dL_caller_6 rfl rfl rfl ?_
  refine jv_callV (q := 10) (As := [.int p0, .int p1, .int p2]) (rest := [.int (nI 0), .ref o]) G Z ml_L_56 (k_caller hlt hR) hR.1.1.1 dL_caller_7 rfl (by decide) (by decide) (by decide) (by decide) (Nat.le_of_ble_eq_true rfl) rfl rfl (fun v1 h1 y1 => ?_) (fun cx h1 yx => ?_)
  · obtain ⟨e0, rfl, hR1, f1⟩ := y1
    show jv_V E 6 h1 (0 + 3) (0 + 18) (jv_Q E (lP z tO o h (m_ca M p0 p1 p2)) jv_no 3 18) 10 [(0, .ref (z 6 0)), (1, .int p0), (2, .int p1), (3, .int p2), (4, .ref o)] [.int ((m_ca M p0 p1 p2).2.1), .int (nI 0), .ref o]
    refine jv_i2l (q := 11) G dL_caller_10 rfl rfl ?_
    refine jv_last (q := 12) G dL_caller_11 ((f1.sh o).trans ho) rfl (by omega) (by decide) rfl ?_
    refine jv_goto (q := 31) G dL_caller_12 (by decide) ?_
    refine jv_iconst (q := 32) (v := nI 0) G dL_caller_31 (by decide) rfl ?_
    refine jv_iret G hr dL_caller_32 (Nat.le_of_ble_eq_true rfl) (Nat.le_of_ble_eq_true rfl) ?_
    exact lP_0 e0 hR1 f1 ho rfl
  · obtain ⟨n0, y2, hR1, f1⟩ := yx
    have hle := le_caller (M := M) (p0 := p0) (p1 := p1) (p2 := p2)
    have n0 : ¬ (m_ca M p0 p1 p2).1 = 0 := n0
    have alt : (m_ca M p0 p1 p2).1 = 1 ∨ (m_ca M p0 p1 p2).1 = 2 ∨ (m_ca M p0 p1 p2).1 = 3 ∨ (m_ca M p0 p1 p2).1 = 4 := by omega
    rcases alt with en | en | en | en
    · have ec : cx = "java/lang/IndexOutOfBoundsException" := by rw [y2, en]; rfl
      subst ec
      refine jv_catch (k := "java/lang/IndexOutOfBoundsException") (q := 15) (a := []) (x := (0, 12, 15, 19)) (b := [(0, 12, 19, 21), (0, 12, 23, 27), (0, 12, 27, 13)]) G ht rfl (by decide) (fun w hw => by cases hw) (by decide) (by decide) ck_19 ct_19 rfl (fun v => ?_)
      refine jv_astore (q := 17) (lo' := [(5, .ref v), (0, .ref (z 6 0)), (1, .int p0), (2, .int p1), (3, .int p2), (4, .ref o)]) G dL_caller_15 (by decide) rfl rfl ?_
      refine jv_iconst (q := 18) (v := nI 1) G dL_caller_17 (by decide) rfl ?_
      refine jv_iret G hr dL_caller_18 (Nat.le_of_ble_eq_true rfl) (Nat.le_of_ble_eq_true rfl) ?_
      exact lP_n en (by decide) hR1 f1
    · have ec : cx = "java/lang/IllegalStateException" := by rw [y2, en]; rfl
      subst ec
      refine jv_catch (k := "java/lang/IllegalStateException") (q := 19) (a := [(0, 12, 15, 19)]) (x := (0, 12, 19, 21)) (b := [(0, 12, 23, 27), (0, 12, 27, 13)]) G ht rfl (by decide) (fun w hw => by
        simp only [List.mem_cons, List.not_mem_nil, or_false] at hw
        subst hw
        exact ⟨by decide, "java/lang/IndexOutOfBoundsException", by decide, ck_19, by decide⟩) (by decide) (by decide) ck_21 ct_21 rfl (fun v => ?_)
      refine jv_astore (q := 21) (lo' := [(5, .ref v), (0, .ref (z 6 0)), (1, .int p0), (2, .int p1), (3, .int p2), (4, .ref o)]) G dL_caller_19 (by decide) rfl rfl ?_
      refine jv_iconst (q := 22) (v := nI 2) G dL_caller_21 (by decide) rfl ?_
      refine jv_iret G hr dL_caller_22 (Nat.le_of_ble_eq_true rfl) (Nat.le_of_ble_eq_true rfl) ?_
      exact lP_n en (by decide) hR1 f1
    · have ec : cx = "java/lang/IllegalArgumentException" := by rw [y2, en]; rfl
      subst ec
      refine jv_catch (k := "java/lang/IllegalArgumentException") (q := 23) (a := [(0, 12, 15, 19), (0, 12, 19, 21)]) (x := (0, 12, 23, 27)) (b := [(0, 12, 27, 13)]) G ht rfl (by decide) (fun w hw => by
        simp only [List.mem_cons, List.not_mem_nil, or_false] at hw
        rcases hw with rfl | rfl
        · exact ⟨by decide, "java/lang/IndexOutOfBoundsException", by decide, ck_19, by decide⟩
        · exact ⟨by decide, "java/lang/IllegalStateException", by decide, ck_21, by decide⟩) (by decide) (by decide) ck_27 ct_27 rfl (fun v => ?_)
      refine jv_astore (q := 25) (lo' := [(5, .ref v), (0, .ref (z 6 0)), (1, .int p0), (2, .int p1), (3, .int p2), (4, .ref o)]) G dL_caller_23 (by decide) rfl rfl ?_
      refine jv_iconst (q := 26) (v := nI 3) G dL_caller_25 (by decide) rfl ?_
      refine jv_iret G hr dL_caller_26 (Nat.le_of_ble_eq_true rfl) (Nat.le_of_ble_eq_true rfl) ?_
      exact lP_n en (by decide) hR1 f1
    · have ec : cx = "java/lang/UnsupportedOperationException" := by rw [y2, en]; rfl
      subst ec
      refine jv_catch (k := "java/lang/UnsupportedOperationException") (q := 27) (a := [(0, 12, 15, 19), (0, 12, 19, 21), (0, 12, 23, 27)]) (x := (0, 12, 27, 13)) (b := []) G ht rfl (by decide) (fun w hw => by
        simp only [List.mem_cons, List.not_mem_nil, or_false] at hw
        rcases hw with rfl | rfl | rfl
        · exact ⟨by decide, "java/lang/IndexOutOfBoundsException", by decide, ck_19, by decide⟩
        · exact ⟨by decide, "java/lang/IllegalStateException", by decide, ck_21, by decide⟩
        · exact ⟨by decide, "java/lang/IllegalArgumentException", by decide, ck_27, by decide⟩) (by decide) (by decide) ck_13 ct_13 rfl (fun v => ?_)
      refine jv_astore (q := 29) (lo' := [(5, .ref v), (0, .ref (z 6 0)), (1, .int p0), (2, .int p1), (3, .int p2), (4, .ref o)]) G dL_caller_27 (by decide) rfl rfl ?_
      refine jv_iconst (q := 30) (v := nI 4) G dL_caller_29 (by decide) rfl ?_
      refine jv_iret G hr dL_caller_30 (Nat.le_of_ble_eq_true rfl) (Nat.le_of_ble_eq_true rfl) ?_
      exact lP_n en (by decide) hR1 f1
theorem le_use {M : mA} {p0 : Int32} {p1 : Int32} {p2 : Int32} {p3 : Int32} {p4 : Int32} {p5 : Int32} : (m_us M p0 p1 p2 p3 p4 p5).1 ≤ 3 := by
  unfold m_us
  repeat' split
  all_goals first | decide | simp
set_option maxHeartbeats 4000000 in
set_option maxRecDepth 100000 in
theorem w_use {lA : Launch} (hlt : lA.stackTraces = false) {D : jv_D} {base : Nat} {z : Nat → Nat → Nat} {T : Nat → Nat} {N : Nat → Nat → Nat} {tO : Nat → Nat} {h : jv_H} {M : mA} (hR : cl_R z T N tO h M) {o : Nat} (ho : jv_sh h o = some (.inr (.long, 1))) {p0 : Int32} {p1 : Int32} {p2 : Int32} {p3 : Int32} {p4 : Int32} {p5 : Int32} : jv_Met lA D base yL_use (.codeWith yL_use cL_use 9 (some .int) [(0, 18, 21, 19), (0, 18, 25, 27), (0, 18, 29, 13)]) 8 2 12 [.ref (z 6 0), .int p0, .int p1, .int p2, .int p3, .int p4, .int p5, .ref o] h (lP z tO o h (m_us M p0 p1 p2 p3 p4 p5)) jv_no := by
  refine jv_ofVH (lo := [(0, .ref (z 6 0)), (1, .int p0), (2, .int p1), (3, .int p2), (4, .int p3), (5, .int p4), (6, .int p5), (7, .ref o)]) hlt (by decide) (Nat.le_of_ble_eq_true rfl) rfl (fun E hEl hEd hEz Z G hr ht hnm => ?_)
  subst hEl; subst hEd; subst hEz
  refine jv_aload (q := 2) G 7 dL_use_0 rfl rfl ?_
  refine jv_iconst (q := 3) (v := nI 0) G dL_use_2 (by decide) rfl ?_
  refine jv_aload_n (q := 4) G 0 dL_use_3 rfl rfl rfl ?_
  refine jv_iload_n (q := 5) G 1 dL_use_4 rfl rfl rfl ?_
  refine jv_iload_n (q := 6) G 2 dL_use_5 rfl rfl rfl ?_
  refine jv_iload_n (q := 7) G 3 dL_use_6 rfl rfl rfl ?_
  refine jv_iload (q := 9) G 4 dL_use_7 rfl rfl ?_
  refine jv_iload (q := 11) G 5 dL_use_9 rfl rfl ?_
  refine jv_iload (q := 13) G 6 dL_use_11 rfl rfl ?_
  refine jv_callV (q := 16) (As := [.int p0, .int p1, .int p2, .int p3, .int p4, .int p5]) (rest := [.int (nI 0), .ref o]) G Z ml_L_59 (k_use hlt hR) hR.1.1.1 dL_use_13 rfl (by decide) (by decide) (by decide) (by decide) (Nat.le_of_ble_eq_true rfl) rfl rfl (fun v1 h1 y1 => ?_) (fun cx h1 yx => ?_)
  · obtain ⟨e0, rfl, hR1, f1⟩ := y1
    show jv_V E 9 h1 (0 + 2) (0 + 12) (jv_Q E (lP z tO o h (m_us M p0 p1 p2 p3 p4 p5)) jv_no 2 12) 16 [(0, .ref (z 6 0)), (1, .int p0), (2, .int p1), (3, .int p2), (4, .int p3), (5, .int p4), (6, .int p5), (7, .ref o)] [.int ((m_us M p0 p1 p2 p3 p4 p5).2.1), .int (nI 0), .ref o]
    refine jv_i2l (q := 17) G dL_use_16 rfl rfl ?_
    refine jv_last (q := 18) G dL_use_17 ((f1.sh o).trans ho) rfl (by omega) (by decide) rfl ?_
    refine jv_goto (q := 33) G dL_use_18 (by decide) ?_
    refine jv_iconst (q := 34) (v := nI 0) G dL_use_33 (by decide) rfl ?_
    refine jv_iret G hr dL_use_34 (Nat.le_of_ble_eq_true rfl) (Nat.le_of_ble_eq_true rfl) ?_
    exact lP_0 e0 hR1 f1 ho rfl
  · obtain ⟨n0, y2, hR1, f1⟩ := yx
    have hle := le_use (M := M) (p0 := p0) (p1 := p1) (p2 := p2) (p3 := p3) (p4 := p4) (p5 := p5)
    have n0 : ¬ (m_us M p0 p1 p2 p3 p4 p5).1 = 0 := n0
    have alt : (m_us M p0 p1 p2 p3 p4 p5).1 = 1 ∨ (m_us M p0 p1 p2 p3 p4 p5).1 = 2 ∨ (m_us M p0 p1 p2 p3 p4 p5).1 = 3 := by omega
    rcases alt with en | en | en
    · have ec : cx = "java/lang/IndexOutOfBoundsException" := by rw [y2, en]; rfl
      subst ec
      refine jv_catch (k := "java/lang/IndexOutOfBoundsException") (q := 21) (a := []) (x := (0, 18, 21, 19)) (b := [(0, 18, 25, 27), (0, 18, 29, 13)]) G ht rfl (by decide) (fun w hw => by cases hw) (by decide) (by decide) ck_19 ct_19 rfl (fun v => ?_)
      refine jv_astore (q := 23) (lo' := [(8, .ref v), (0, .ref (z 6 0)), (1, .int p0), (2, .int p1), (3, .int p2), (4, .int p3), (5, .int p4), (6, .int p5), (7, .ref o)]) G dL_use_21 (by decide) rfl rfl ?_
      refine jv_iconst (q := 24) (v := nI 1) G dL_use_23 (by decide) rfl ?_
      refine jv_iret G hr dL_use_24 (Nat.le_of_ble_eq_true rfl) (Nat.le_of_ble_eq_true rfl) ?_
      exact lP_n en (by decide) hR1 f1
    · have ec : cx = "java/lang/IllegalArgumentException" := by rw [y2, en]; rfl
      subst ec
      refine jv_catch (k := "java/lang/IllegalArgumentException") (q := 25) (a := [(0, 18, 21, 19)]) (x := (0, 18, 25, 27)) (b := [(0, 18, 29, 13)]) G ht rfl (by decide) (fun w hw => by
        simp only [List.mem_cons, List.not_mem_nil, or_false] at hw
        subst hw
        exact ⟨by decide, "java/lang/IndexOutOfBoundsException", by decide, ck_19, by decide⟩) (by decide) (by decide) ck_27 ct_27 rfl (fun v => ?_)
      refine jv_astore (q := 27) (lo' := [(8, .ref v), (0, .ref (z 6 0)), (1, .int p0), (2, .int p1), (3, .int p2), (4, .int p3), (5, .int p4), (6, .int p5), (7, .ref o)]) G dL_use_25 (by decide) rfl rfl ?_
      refine jv_iconst (q := 28) (v := nI 2) G dL_use_27 (by decide) rfl ?_
      refine jv_iret G hr dL_use_28 (Nat.le_of_ble_eq_true rfl) (Nat.le_of_ble_eq_true rfl) ?_
      exact lP_n en (by decide) hR1 f1
    · have ec : cx = "java/lang/UnsupportedOperationException" := by rw [y2, en]; rfl
      subst ec
      refine jv_catch (k := "java/lang/UnsupportedOperationException") (q := 29) (a := [(0, 18, 21, 19), (0, 18, 25, 27)]) (x := (0, 18, 29, 13)) (b := []) G ht rfl (by decide) (fun w hw => by
        simp only [List.mem_cons, List.not_mem_nil, or_false] at hw
        rcases hw with rfl | rfl
        · exact ⟨by decide, "java/lang/IndexOutOfBoundsException", by decide, ck_19, by decide⟩
        · exact ⟨by decide, "java/lang/IllegalArgumentException", by decide, ck_27, by decide⟩) (by decide) (by decide) ck_13 ct_13 rfl (fun v => ?_)
      refine jv_astore (q := 31) (lo' := [(8, .ref v), (0, .ref (z 6 0)), (1, .int p0), (2, .int p1), (3, .int p2), (4, .int p3), (5, .int p4), (6, .int p5), (7, .ref o)]) G dL_use_29 (by decide) rfl rfl ?_
      refine jv_iconst (q := 32) (v := nI 3) G dL_use_31 (by decide) rfl ?_
      refine jv_iret G hr dL_use_32 (Nat.le_of_ble_eq_true rfl) (Nat.le_of_ble_eq_true rfl) ?_
      exact lP_n en (by decide) hR1 f1
theorem le_foretell {M : mA} {p0 : Int32} {p1 : Int32} {p2 : Int32} : ((m_usF M p0 p1 p2, m_foretell M p0 p1 p2, M)).1 ≤ 2 := by
  show m_usF M p0 p1 p2 ≤ 2
  unfold m_usF
  repeat' split
  all_goals first | decide | simp
set_option maxHeartbeats 4000000 in
set_option maxRecDepth 100000 in
theorem w_foretell {lA : Launch} (hlt : lA.stackTraces = false) {D : jv_D} {base : Nat} {z : Nat → Nat → Nat} {T : Nat → Nat} {N : Nat → Nat → Nat} {tO : Nat → Nat} {h : jv_H} {M : mA} (hR : cl_R z T N tO h M) {o : Nat} (ho : jv_sh h o = some (.inr (.long, 1))) {p0 : Int32} {p1 : Int32} {p2 : Int32} : jv_Met lA D base yL_foretell (.codeWith yL_foretell cL_foretell 6 (some .int) [(0, 12, 15, 19), (0, 12, 19, 21)]) 8 4 24 [.ref (z 6 0), .int p0, .int p1, .int p2, .ref o] h (lP z tO o h ((m_usF M p0 p1 p2, m_foretell M p0 p1 p2, M))) jv_no := by
  refine jv_ofVH (lo := [(0, .ref (z 6 0)), (1, .int p0), (2, .int p1), (3, .int p2), (4, .ref o)]) hlt (by decide) (Nat.le_of_ble_eq_true rfl) rfl (fun E hEl hEd hEz Z G hr ht hnm => ?_)
  subst hEl; subst hEd; subst hEz
  refine jv_aload (q := 2) G 4 dL_foretell_0 rfl rfl ?_
  refine jv_iconst (q := 3) (v := nI 0) G dL_foretell_2 (by decide) rfl ?_
  refine jv_aload_n (q := 4) G 0 dL_foretell_3 rfl rfl rfl ?_
  refine jv_iload_n (q := 5) G 1 dL_foretell_4 rfl rfl rfl ?_
  refine jv_iload_n (q := 6) G 2 dL_foretell_5 rfl rfl rfl ?_
  refine jv_iload_n (q := 7) G 3 dL_foretell_6 rfl rfl rfl ?_
  refine jv_callV (q := 10) (As := [.int p0, .int p1, .int p2]) (rest := [.int (nI 0), .ref o]) G Z ml_L_63 (k_foretell hlt hR) hR.1.1.1 dL_foretell_7 rfl (by decide) (by decide) (by decide) (by decide) (Nat.le_of_ble_eq_true rfl) rfl rfl (fun v1 h1 y1 => ?_) (fun cx h1 yx => ?_)
  · obtain ⟨e0, rfl, hR1, f1⟩ := y1
    show jv_V E 6 h1 (0 + 4) (0 + 24) (jv_Q E (lP z tO o h ((m_usF M p0 p1 p2, m_foretell M p0 p1 p2, M))) jv_no 4 24) 10 [(0, .ref (z 6 0)), (1, .int p0), (2, .int p1), (3, .int p2), (4, .ref o)] [.int (((m_usF M p0 p1 p2, m_foretell M p0 p1 p2, M)).2.1), .int (nI 0), .ref o]
    refine jv_i2l (q := 11) G dL_foretell_10 rfl rfl ?_
    refine jv_last (q := 12) G dL_foretell_11 ((f1.sh o).trans ho) rfl (by omega) (by decide) rfl ?_
    refine jv_goto (q := 23) G dL_foretell_12 (by decide) ?_
    refine jv_iconst (q := 24) (v := nI 0) G dL_foretell_23 (by decide) rfl ?_
    refine jv_iret G hr dL_foretell_24 (Nat.le_of_ble_eq_true rfl) (Nat.le_of_ble_eq_true rfl) ?_
    exact lP_0 e0 hR1 f1 ho rfl
  · obtain ⟨n0, y2, hR1, f1⟩ := yx
    have hle := le_foretell (M := M) (p0 := p0) (p1 := p1) (p2 := p2)
    have n0 : ¬ ((m_usF M p0 p1 p2, m_foretell M p0 p1 p2, M)).1 = 0 := n0
    have alt : ((m_usF M p0 p1 p2, m_foretell M p0 p1 p2, M)).1 = 1 ∨ ((m_usF M p0 p1 p2, m_foretell M p0 p1 p2, M)).1 = 2 := by omega
    rcases alt with en | en
    · have ec : cx = "java/lang/IndexOutOfBoundsException" := by rw [y2, en]; rfl
      subst ec
      refine jv_catch (k := "java/lang/IndexOutOfBoundsException") (q := 15) (a := []) (x := (0, 12, 15, 19)) (b := [(0, 12, 19, 21)]) G ht rfl (by decide) (fun w hw => by cases hw) (by decide) (by decide) ck_19 ct_19 rfl (fun v => ?_)
      refine jv_astore (q := 17) (lo' := [(5, .ref v), (0, .ref (z 6 0)), (1, .int p0), (2, .int p1), (3, .int p2), (4, .ref o)]) G dL_foretell_15 (by decide) rfl rfl ?_
      refine jv_iconst (q := 18) (v := nI 1) G dL_foretell_17 (by decide) rfl ?_
      refine jv_iret G hr dL_foretell_18 (Nat.le_of_ble_eq_true rfl) (Nat.le_of_ble_eq_true rfl) ?_
      exact lP_n en (by decide) hR1 f1
    · have ec : cx = "java/lang/IllegalStateException" := by rw [y2, en]; rfl
      subst ec
      refine jv_catch (k := "java/lang/IllegalStateException") (q := 19) (a := [(0, 12, 15, 19)]) (x := (0, 12, 19, 21)) (b := []) G ht rfl (by decide) (fun w hw => by
        simp only [List.mem_cons, List.not_mem_nil, or_false] at hw
        subst hw
        exact ⟨by decide, "java/lang/IndexOutOfBoundsException", by decide, ck_19, by decide⟩) (by decide) (by decide) ck_21 ct_21 rfl (fun v => ?_)
      refine jv_astore (q := 21) (lo' := [(5, .ref v), (0, .ref (z 6 0)), (1, .int p0), (2, .int p1), (3, .int p2), (4, .ref o)]) G dL_foretell_19 (by decide) rfl rfl ?_
      refine jv_iconst (q := 22) (v := nI 2) G dL_foretell_21 (by decide) rfl ?_
      refine jv_iret G hr dL_foretell_22 (Nat.le_of_ble_eq_true rfl) (Nat.le_of_ble_eq_true rfl) ?_
      exact lP_n en (by decide) hR1 f1
theorem le_runs {M : mA} {p0 : Int32} {p1 : Int32} {p2 : Int32} : ((m_usF M p0 p1 p2, m_runs M p0 p1 p2, M)).1 ≤ 2 := by
  show m_usF M p0 p1 p2 ≤ 2
  unfold m_usF
  repeat' split
  all_goals first | decide | simp
set_option maxHeartbeats 4000000 in
set_option maxRecDepth 100000 in
theorem w_runs {lA : Launch} (hlt : lA.stackTraces = false) {D : jv_D} {base : Nat} {z : Nat → Nat → Nat} {T : Nat → Nat} {N : Nat → Nat → Nat} {tO : Nat → Nat} {h : jv_H} {M : mA} (hR : cl_R z T N tO h M) {o : Nat} (ho : jv_sh h o = some (.inr (.long, 1))) {p0 : Int32} {p1 : Int32} {p2 : Int32} : jv_Met lA D base yL_runs (.codeWith yL_runs cL_runs 6 (some .int) [(0, 12, 15, 19), (0, 12, 19, 21)]) 8 4 24 [.ref (z 6 0), .int p0, .int p1, .int p2, .ref o] h (lP z tO o h ((m_usF M p0 p1 p2, m_runs M p0 p1 p2, M))) jv_no := by
  refine jv_ofVH (lo := [(0, .ref (z 6 0)), (1, .int p0), (2, .int p1), (3, .int p2), (4, .ref o)]) hlt (by decide) (Nat.le_of_ble_eq_true rfl) rfl (fun E hEl hEd hEz Z G hr ht hnm => ?_)
  subst hEl; subst hEd; subst hEz
  refine jv_aload (q := 2) G 4 dL_runs_0 rfl rfl ?_
  refine jv_iconst (q := 3) (v := nI 0) G dL_runs_2 (by decide) rfl ?_
  refine jv_aload_n (q := 4) G 0 dL_runs_3 rfl rfl rfl ?_
  refine jv_iload_n (q := 5) G 1 dL_runs_4 rfl rfl rfl ?_
  refine jv_iload_n (q := 6) G 2 dL_runs_5 rfl rfl rfl ?_
  refine jv_iload_n (q := 7) G 3 dL_runs_6 rfl rfl rfl ?_
  refine jv_callV (q := 10) (As := [.int p0, .int p1, .int p2]) (rest := [.int (nI 0), .ref o]) G Z ml_L_66 (k_runs hlt hR) hR.1.1.1 dL_runs_7 rfl (by decide) (by decide) (by decide) (by decide) (Nat.le_of_ble_eq_true rfl) rfl rfl (fun v1 h1 y1 => ?_) (fun cx h1 yx => ?_)
  · obtain ⟨e0, rfl, hR1, f1⟩ := y1
    show jv_V E 6 h1 (0 + 4) (0 + 24) (jv_Q E (lP z tO o h ((m_usF M p0 p1 p2, m_runs M p0 p1 p2, M))) jv_no 4 24) 10 [(0, .ref (z 6 0)), (1, .int p0), (2, .int p1), (3, .int p2), (4, .ref o)] [.int (((m_usF M p0 p1 p2, m_runs M p0 p1 p2, M)).2.1), .int (nI 0), .ref o]
    refine jv_i2l (q := 11) G dL_runs_10 rfl rfl ?_
    refine jv_last (q := 12) G dL_runs_11 ((f1.sh o).trans ho) rfl (by omega) (by decide) rfl ?_
    refine jv_goto (q := 23) G dL_runs_12 (by decide) ?_
    refine jv_iconst (q := 24) (v := nI 0) G dL_runs_23 (by decide) rfl ?_
    refine jv_iret G hr dL_runs_24 (Nat.le_of_ble_eq_true rfl) (Nat.le_of_ble_eq_true rfl) ?_
    exact lP_0 e0 hR1 f1 ho rfl
  · obtain ⟨n0, y2, hR1, f1⟩ := yx
    have hle := le_runs (M := M) (p0 := p0) (p1 := p1) (p2 := p2)
    have n0 : ¬ ((m_usF M p0 p1 p2, m_runs M p0 p1 p2, M)).1 = 0 := n0
    have alt : ((m_usF M p0 p1 p2, m_runs M p0 p1 p2, M)).1 = 1 ∨ ((m_usF M p0 p1 p2, m_runs M p0 p1 p2, M)).1 = 2 := by omega
    rcases alt with en | en
    · have ec : cx = "java/lang/IndexOutOfBoundsException" := by rw [y2, en]; rfl
      subst ec
      refine jv_catch (k := "java/lang/IndexOutOfBoundsException") (q := 15) (a := []) (x := (0, 12, 15, 19)) (b := [(0, 12, 19, 21)]) G ht rfl (by decide) (fun w hw => by cases hw) (by decide) (by decide) ck_19 ct_19 rfl (fun v => ?_)
      refine jv_astore (q := 17) (lo' := [(5, .ref v), (0, .ref (z 6 0)), (1, .int p0), (2, .int p1), (3, .int p2), (4, .ref o)]) G dL_runs_15 (by decide) rfl rfl ?_
      refine jv_iconst (q := 18) (v := nI 1) G dL_runs_17 (by decide) rfl ?_
      refine jv_iret G hr dL_runs_18 (Nat.le_of_ble_eq_true rfl) (Nat.le_of_ble_eq_true rfl) ?_
      exact lP_n en (by decide) hR1 f1
    · have ec : cx = "java/lang/IllegalStateException" := by rw [y2, en]; rfl
      subst ec
      refine jv_catch (k := "java/lang/IllegalStateException") (q := 19) (a := [(0, 12, 15, 19)]) (x := (0, 12, 19, 21)) (b := []) G ht rfl (by decide) (fun w hw => by
        simp only [List.mem_cons, List.not_mem_nil, or_false] at hw
        subst hw
        exact ⟨by decide, "java/lang/IndexOutOfBoundsException", by decide, ck_19, by decide⟩) (by decide) (by decide) ck_21 ct_21 rfl (fun v => ?_)
      refine jv_astore (q := 21) (lo' := [(5, .ref v), (0, .ref (z 6 0)), (1, .int p0), (2, .int p1), (3, .int p2), (4, .ref o)]) G dL_runs_19 (by decide) rfl rfl ?_
      refine jv_iconst (q := 22) (v := nI 2) G dL_runs_21 (by decide) rfl ?_
      refine jv_iret G hr dL_runs_22 (Nat.le_of_ble_eq_true rfl) (Nat.le_of_ble_eq_true rfl) ?_
      exact lP_n en (by decide) hR1 f1
theorem le_copied {M : mA} {p0 : Int32} {p1 : Int32} : ((m_cpF M p0 p1, m_copied M p0 p1, M)).1 ≤ 1 := by
  show m_cpF M p0 p1 ≤ 1
  unfold m_cpF
  repeat' split
  all_goals first | decide | simp
set_option maxHeartbeats 4000000 in
set_option maxRecDepth 100000 in
theorem w_copied {lA : Launch} (hlt : lA.stackTraces = false) {D : jv_D} {base : Nat} {z : Nat → Nat → Nat} {T : Nat → Nat} {N : Nat → Nat → Nat} {tO : Nat → Nat} {h : jv_H} {M : mA} (hR : cl_R z T N tO h M) {o : Nat} (ho : jv_sh h o = some (.inr (.long, 1))) {p0 : Int32} {p1 : Int32} : jv_Met lA D base yL_copied (.codeWith yL_copied cL_copied 5 (some .int) [(0, 10, 13, 19)]) 4 2 12 [.ref (z 6 0), .int p0, .int p1, .ref o] h (lP z tO o h ((m_cpF M p0 p1, m_copied M p0 p1, M))) jv_no := by
  refine jv_ofVH (lo := [(0, .ref (z 6 0)), (1, .int p0), (2, .int p1), (3, .ref o)]) hlt (by decide) (Nat.le_of_ble_eq_true rfl) rfl (fun E hEl hEd hEz Z G hr ht hnm => ?_)
  subst hEl; subst hEd; subst hEz
  refine jv_aload_n (q := 1) G 3 dL_copied_0 rfl rfl rfl ?_
  refine jv_iconst (q := 2) (v := nI 0) G dL_copied_1 (by decide) rfl ?_
  refine jv_aload_n (q := 3) G 0 dL_copied_2 rfl rfl rfl ?_
  refine jv_iload_n (q := 4) G 1 dL_copied_3 rfl rfl rfl ?_
  refine jv_iload_n (q := 5) G 2 dL_copied_4 rfl rfl rfl ?_
  refine jv_callV (q := 8) (As := [.int p0, .int p1]) (rest := [.int (nI 0), .ref o]) G Z ml_L_69 (k_copied hlt hR) hR.1.1.1 dL_copied_5 rfl (by decide) (by decide) (by decide) (by decide) (Nat.le_of_ble_eq_true rfl) rfl rfl (fun v1 h1 y1 => ?_) (fun cx h1 yx => ?_)
  · obtain ⟨e0, rfl, hR1, f1⟩ := y1
    show jv_V E 5 h1 (0 + 2) (0 + 12) (jv_Q E (lP z tO o h ((m_cpF M p0 p1, m_copied M p0 p1, M))) jv_no 2 12) 8 [(0, .ref (z 6 0)), (1, .int p0), (2, .int p1), (3, .ref o)] [.int (((m_cpF M p0 p1, m_copied M p0 p1, M)).2.1), .int (nI 0), .ref o]
    refine jv_i2l (q := 9) G dL_copied_8 rfl rfl ?_
    refine jv_last (q := 10) G dL_copied_9 ((f1.sh o).trans ho) rfl (by omega) (by decide) rfl ?_
    refine jv_goto (q := 17) G dL_copied_10 (by decide) ?_
    refine jv_iconst (q := 18) (v := nI 0) G dL_copied_17 (by decide) rfl ?_
    refine jv_iret G hr dL_copied_18 (Nat.le_of_ble_eq_true rfl) (Nat.le_of_ble_eq_true rfl) ?_
    exact lP_0 e0 hR1 f1 ho rfl
  · obtain ⟨n0, y2, hR1, f1⟩ := yx
    have hle := le_copied (M := M) (p0 := p0) (p1 := p1)
    have n0 : ¬ ((m_cpF M p0 p1, m_copied M p0 p1, M)).1 = 0 := n0
    have alt : ((m_cpF M p0 p1, m_copied M p0 p1, M)).1 = 1 := by omega
    have en := alt
    have ec : cx = "java/lang/IndexOutOfBoundsException" := by rw [y2, en]; rfl
    subst ec
    refine jv_catch (k := "java/lang/IndexOutOfBoundsException") (q := 13) (a := []) (x := (0, 10, 13, 19)) (b := []) G ht rfl (by decide) (fun w hw => by cases hw) (by decide) (by decide) ck_19 ct_19 rfl (fun v => ?_)
    refine jv_astore (q := 15) (lo' := [(4, .ref v), (0, .ref (z 6 0)), (1, .int p0), (2, .int p1), (3, .ref o)]) G dL_copied_13 (by decide) rfl rfl ?_
    refine jv_iconst (q := 16) (v := nI 1) G dL_copied_15 (by decide) rfl ?_
    refine jv_iret G hr dL_copied_16 (Nat.le_of_ble_eq_true rfl) (Nat.le_of_ble_eq_true rfl) ?_
    exact lP_n en (by decide) hR1 f1
theorem le_meets {M : mA} {p0 : Int32} {p1 : Int32} {p2 : Int32} : ((m_ceF M p0 p1, m_meets M p0 p1 p2, M)).1 ≤ 2 := by
  show m_ceF M p0 p1 ≤ 2
  unfold m_ceF
  repeat' split
  all_goals first | decide | simp
set_option maxHeartbeats 4000000 in
set_option maxRecDepth 100000 in
theorem w_meets {lA : Launch} (hlt : lA.stackTraces = false) {D : jv_D} {base : Nat} {z : Nat → Nat → Nat} {T : Nat → Nat} {N : Nat → Nat → Nat} {tO : Nat → Nat} {h : jv_H} {M : mA} (hR : cl_R z T N tO h M) {o : Nat} (ho : jv_sh h o = some (.inr (.long, 1))) {p0 : Int32} {p1 : Int32} {p2 : Int32} : jv_Met lA D base yL_meets (.codeWith yL_meets cL_meets 6 (some .int) [(0, 12, 15, 19), (0, 12, 19, 21)]) 9 3 18 [.ref (z 6 0), .int p0, .int p1, .int p2, .ref o] h (lP z tO o h ((m_ceF M p0 p1, m_meets M p0 p1 p2, M))) jv_no := by
  refine jv_ofVH (lo := [(0, .ref (z 6 0)), (1, .int p0), (2, .int p1), (3, .int p2), (4, .ref o)]) hlt (by decide) (Nat.le_of_ble_eq_true rfl) rfl (fun E hEl hEd hEz Z G hr ht hnm => ?_)
  subst hEl; subst hEd; subst hEz
  refine jv_aload (q := 2) G 4 dL_meets_0 rfl rfl ?_
  refine jv_iconst (q := 3) (v := nI 0) G dL_meets_2 (by decide) rfl ?_
  refine jv_aload_n (q := 4) G 0 dL_meets_3 rfl rfl rfl ?_
  refine jv_iload_n (q := 5) G 1 dL_meets_4 rfl rfl rfl ?_
  refine jv_iload_n (q := 6) G 2 dL_meets_5 rfl rfl rfl ?_
  refine jv_iload_n (q := 7) G 3 dL_meets_6 rfl rfl rfl ?_
  refine jv_callV (q := 10) (As := [.int p0, .int p1, .int p2]) (rest := [.int (nI 0), .ref o]) G Z ml_L_73 (k_meets hlt hR) hR.1.1.1 dL_meets_7 rfl (by decide) (by decide) (by decide) (by decide) (Nat.le_of_ble_eq_true rfl) rfl rfl (fun v1 h1 y1 => ?_) (fun cx h1 yx => ?_)
  · obtain ⟨e0, rfl, hR1, f1⟩ := y1
    show jv_V E 6 h1 (0 + 3) (0 + 18) (jv_Q E (lP z tO o h ((m_ceF M p0 p1, m_meets M p0 p1 p2, M))) jv_no 3 18) 10 [(0, .ref (z 6 0)), (1, .int p0), (2, .int p1), (3, .int p2), (4, .ref o)] [.int (((m_ceF M p0 p1, m_meets M p0 p1 p2, M)).2.1), .int (nI 0), .ref o]
    refine jv_i2l (q := 11) G dL_meets_10 rfl rfl ?_
    refine jv_last (q := 12) G dL_meets_11 ((f1.sh o).trans ho) rfl (by omega) (by decide) rfl ?_
    refine jv_goto (q := 23) G dL_meets_12 (by decide) ?_
    refine jv_iconst (q := 24) (v := nI 0) G dL_meets_23 (by decide) rfl ?_
    refine jv_iret G hr dL_meets_24 (Nat.le_of_ble_eq_true rfl) (Nat.le_of_ble_eq_true rfl) ?_
    exact lP_0 e0 hR1 f1 ho rfl
  · obtain ⟨n0, y2, hR1, f1⟩ := yx
    have hle := le_meets (M := M) (p0 := p0) (p1 := p1) (p2 := p2)
    have n0 : ¬ ((m_ceF M p0 p1, m_meets M p0 p1 p2, M)).1 = 0 := n0
    have alt : ((m_ceF M p0 p1, m_meets M p0 p1 p2, M)).1 = 1 ∨ ((m_ceF M p0 p1, m_meets M p0 p1 p2, M)).1 = 2 := by omega
    rcases alt with en | en
    · have ec : cx = "java/lang/IndexOutOfBoundsException" := by rw [y2, en]; rfl
      subst ec
      refine jv_catch (k := "java/lang/IndexOutOfBoundsException") (q := 15) (a := []) (x := (0, 12, 15, 19)) (b := [(0, 12, 19, 21)]) G ht rfl (by decide) (fun w hw => by cases hw) (by decide) (by decide) ck_19 ct_19 rfl (fun v => ?_)
      refine jv_astore (q := 17) (lo' := [(5, .ref v), (0, .ref (z 6 0)), (1, .int p0), (2, .int p1), (3, .int p2), (4, .ref o)]) G dL_meets_15 (by decide) rfl rfl ?_
      refine jv_iconst (q := 18) (v := nI 1) G dL_meets_17 (by decide) rfl ?_
      refine jv_iret G hr dL_meets_18 (Nat.le_of_ble_eq_true rfl) (Nat.le_of_ble_eq_true rfl) ?_
      exact lP_n en (by decide) hR1 f1
    · have ec : cx = "java/lang/IllegalStateException" := by rw [y2, en]; rfl
      subst ec
      refine jv_catch (k := "java/lang/IllegalStateException") (q := 19) (a := [(0, 12, 15, 19)]) (x := (0, 12, 19, 21)) (b := []) G ht rfl (by decide) (fun w hw => by
        simp only [List.mem_cons, List.not_mem_nil, or_false] at hw
        subst hw
        exact ⟨by decide, "java/lang/IndexOutOfBoundsException", by decide, ck_19, by decide⟩) (by decide) (by decide) ck_21 ct_21 rfl (fun v => ?_)
      refine jv_astore (q := 21) (lo' := [(5, .ref v), (0, .ref (z 6 0)), (1, .int p0), (2, .int p1), (3, .int p2), (4, .ref o)]) G dL_meets_19 (by decide) rfl rfl ?_
      refine jv_iconst (q := 22) (v := nI 2) G dL_meets_21 (by decide) rfl ?_
      refine jv_iret G hr dL_meets_22 (Nat.le_of_ble_eq_true rfl) (Nat.le_of_ble_eq_true rfl) ?_
      exact lP_n en (by decide) hR1 f1
theorem le_best {M : mA} {p0 : Int32} {p1 : Bool} : ((m_cF M p0, m_best M p0 p1, M)).1 ≤ 1 := by
  show m_cF M p0 ≤ 1
  unfold m_cF
  repeat' split
  all_goals first | decide | simp
set_option maxHeartbeats 4000000 in
set_option maxRecDepth 100000 in
theorem w_best {lA : Launch} (hlt : lA.stackTraces = false) {D : jv_D} {base : Nat} {z : Nat → Nat → Nat} {T : Nat → Nat} {N : Nat → Nat → Nat} {tO : Nat → Nat} {h : jv_H} {M : mA} (hR : cl_R z T N tO h M) {o : Nat} (ho : jv_sh h o = some (.inr (.long, 1))) {p0 : Int32} {p1 : Bool} : jv_Met lA D base yL_best (.codeWith yL_best cL_best 5 (some .int) [(0, 10, 13, 19)]) 9 1 6 [.ref (z 6 0), .int p0, .int (jv_bI p1), .ref o] h (lP z tO o h ((m_cF M p0, m_best M p0 p1, M))) jv_no := by
  refine jv_ofVH (lo := [(0, .ref (z 6 0)), (1, .int p0), (2, .int (jv_bI p1)), (3, .ref o)]) hlt (by decide) (Nat.le_of_ble_eq_true rfl) rfl (fun E hEl hEd hEz Z G hr ht hnm => ?_)
  subst hEl; subst hEd; subst hEz
  refine jv_aload_n (q := 1) G 3 dL_best_0 rfl rfl rfl ?_
  refine jv_iconst (q := 2) (v := nI 0) G dL_best_1 (by decide) rfl ?_
  refine jv_aload_n (q := 3) G 0 dL_best_2 rfl rfl rfl ?_
  refine jv_iload_n (q := 4) G 1 dL_best_3 rfl rfl rfl ?_
  refine jv_iload_n (q := 5) G 2 dL_best_4 rfl rfl rfl ?_
  refine jv_callV (q := 8) (As := [.int p0, .int (jv_bI p1)]) (rest := [.int (nI 0), .ref o]) G Z ml_L_76 (k_best hlt hR) hR.1.1.1 dL_best_5 rfl (by decide) (by decide) (by decide) (by decide) (Nat.le_of_ble_eq_true rfl) rfl rfl (fun v1 h1 y1 => ?_) (fun cx h1 yx => ?_)
  · obtain ⟨e0, rfl, hR1, f1⟩ := y1
    show jv_V E 5 h1 (0 + 1) (0 + 6) (jv_Q E (lP z tO o h ((m_cF M p0, m_best M p0 p1, M))) jv_no 1 6) 8 [(0, .ref (z 6 0)), (1, .int p0), (2, .int (jv_bI p1)), (3, .ref o)] [.int (((m_cF M p0, m_best M p0 p1, M)).2.1), .int (nI 0), .ref o]
    refine jv_i2l (q := 9) G dL_best_8 rfl rfl ?_
    refine jv_last (q := 10) G dL_best_9 ((f1.sh o).trans ho) rfl (by omega) (by decide) rfl ?_
    refine jv_goto (q := 17) G dL_best_10 (by decide) ?_
    refine jv_iconst (q := 18) (v := nI 0) G dL_best_17 (by decide) rfl ?_
    refine jv_iret G hr dL_best_18 (Nat.le_of_ble_eq_true rfl) (Nat.le_of_ble_eq_true rfl) ?_
    exact lP_0 e0 hR1 f1 ho rfl
  · obtain ⟨n0, y2, hR1, f1⟩ := yx
    have hle := le_best (M := M) (p0 := p0) (p1 := p1)
    have n0 : ¬ ((m_cF M p0, m_best M p0 p1, M)).1 = 0 := n0
    have alt : ((m_cF M p0, m_best M p0 p1, M)).1 = 1 := by omega
    have en := alt
    have ec : cx = "java/lang/IndexOutOfBoundsException" := by rw [y2, en]; rfl
    subst ec
    refine jv_catch (k := "java/lang/IndexOutOfBoundsException") (q := 13) (a := []) (x := (0, 10, 13, 19)) (b := []) G ht rfl (by decide) (fun w hw => by cases hw) (by decide) (by decide) ck_19 ct_19 rfl (fun v => ?_)
    refine jv_astore (q := 15) (lo' := [(4, .ref v), (0, .ref (z 6 0)), (1, .int p0), (2, .int (jv_bI p1)), (3, .ref o)]) G dL_best_13 (by decide) rfl rfl ?_
    refine jv_iconst (q := 16) (v := nI 1) G dL_best_15 (by decide) rfl ?_
    refine jv_iret G hr dL_best_16 (Nat.le_of_ble_eq_true rfl) (Nat.le_of_ble_eq_true rfl) ?_
    exact lP_n en (by decide) hR1 f1
theorem le_differ {M : mA} {p0 : Int32} {p1 : Int32} : ((m_paF M p0 p1, m_differ M p0 p1, M)).1 ≤ 2 := by
  show m_paF M p0 p1 ≤ 2
  unfold m_paF
  repeat' split
  all_goals first | decide | simp
set_option maxHeartbeats 4000000 in
set_option maxRecDepth 100000 in
theorem w_differ {lA : Launch} (hlt : lA.stackTraces = false) {D : jv_D} {base : Nat} {z : Nat → Nat → Nat} {T : Nat → Nat} {N : Nat → Nat → Nat} {tO : Nat → Nat} {h : jv_H} {M : mA} (hR : cl_R z T N tO h M) {o : Nat} (ho : jv_sh h o = some (.inr (.long, 1))) {p0 : Int32} {p1 : Int32} : jv_Met lA D base yL_differ (.codeWith yL_differ cL_differ 5 (some .int) [(0, 10, 13, 19), (0, 10, 17, 21)]) 8 4 24 [.ref (z 6 0), .int p0, .int p1, .ref o] h (lP z tO o h ((m_paF M p0 p1, m_differ M p0 p1, M))) jv_no := by
  refine jv_ofVH (lo := [(0, .ref (z 6 0)), (1, .int p0), (2, .int p1), (3, .ref o)]) hlt (by decide) (Nat.le_of_ble_eq_true rfl) rfl (fun E hEl hEd hEz Z G hr ht hnm => ?_)
  subst hEl; subst hEd; subst hEz
  refine jv_aload_n (q := 1) G 3 dL_differ_0 rfl rfl rfl ?_
  refine jv_iconst (q := 2) (v := nI 0) G dL_differ_1 (by decide) rfl ?_
  refine jv_aload_n (q := 3) G 0 dL_differ_2 rfl rfl rfl ?_
  refine jv_iload_n (q := 4) G 1 dL_differ_3 rfl rfl rfl ?_
  refine jv_iload_n (q := 5) G 2 dL_differ_4 rfl rfl rfl ?_
  refine jv_callV (q := 8) (As := [.int p0, .int p1]) (rest := [.int (nI 0), .ref o]) G Z ml_L_80 (k_differ hlt hR) hR.1.1.1 dL_differ_5 rfl (by decide) (by decide) (by decide) (by decide) (Nat.le_of_ble_eq_true rfl) rfl rfl (fun v1 h1 y1 => ?_) (fun cx h1 yx => ?_)
  · obtain ⟨e0, rfl, hR1, f1⟩ := y1
    show jv_V E 5 h1 (0 + 4) (0 + 24) (jv_Q E (lP z tO o h ((m_paF M p0 p1, m_differ M p0 p1, M))) jv_no 4 24) 8 [(0, .ref (z 6 0)), (1, .int p0), (2, .int p1), (3, .ref o)] [.int (((m_paF M p0 p1, m_differ M p0 p1, M)).2.1), .int (nI 0), .ref o]
    refine jv_i2l (q := 9) G dL_differ_8 rfl rfl ?_
    refine jv_last (q := 10) G dL_differ_9 ((f1.sh o).trans ho) rfl (by omega) (by decide) rfl ?_
    refine jv_goto (q := 21) G dL_differ_10 (by decide) ?_
    refine jv_iconst (q := 22) (v := nI 0) G dL_differ_21 (by decide) rfl ?_
    refine jv_iret G hr dL_differ_22 (Nat.le_of_ble_eq_true rfl) (Nat.le_of_ble_eq_true rfl) ?_
    exact lP_0 e0 hR1 f1 ho rfl
  · obtain ⟨n0, y2, hR1, f1⟩ := yx
    have hle := le_differ (M := M) (p0 := p0) (p1 := p1)
    have n0 : ¬ ((m_paF M p0 p1, m_differ M p0 p1, M)).1 = 0 := n0
    have alt : ((m_paF M p0 p1, m_differ M p0 p1, M)).1 = 1 ∨ ((m_paF M p0 p1, m_differ M p0 p1, M)).1 = 2 := by omega
    rcases alt with en | en
    · have ec : cx = "java/lang/IndexOutOfBoundsException" := by rw [y2, en]; rfl
      subst ec
      refine jv_catch (k := "java/lang/IndexOutOfBoundsException") (q := 13) (a := []) (x := (0, 10, 13, 19)) (b := [(0, 10, 17, 21)]) G ht rfl (by decide) (fun w hw => by cases hw) (by decide) (by decide) ck_19 ct_19 rfl (fun v => ?_)
      refine jv_astore (q := 15) (lo' := [(4, .ref v), (0, .ref (z 6 0)), (1, .int p0), (2, .int p1), (3, .ref o)]) G dL_differ_13 (by decide) rfl rfl ?_
      refine jv_iconst (q := 16) (v := nI 1) G dL_differ_15 (by decide) rfl ?_
      refine jv_iret G hr dL_differ_16 (Nat.le_of_ble_eq_true rfl) (Nat.le_of_ble_eq_true rfl) ?_
      exact lP_n en (by decide) hR1 f1
    · have ec : cx = "java/lang/IllegalStateException" := by rw [y2, en]; rfl
      subst ec
      refine jv_catch (k := "java/lang/IllegalStateException") (q := 17) (a := [(0, 10, 13, 19)]) (x := (0, 10, 17, 21)) (b := []) G ht rfl (by decide) (fun w hw => by
        simp only [List.mem_cons, List.not_mem_nil, or_false] at hw
        subst hw
        exact ⟨by decide, "java/lang/IndexOutOfBoundsException", by decide, ck_19, by decide⟩) (by decide) (by decide) ck_21 ct_21 rfl (fun v => ?_)
      refine jv_astore (q := 19) (lo' := [(4, .ref v), (0, .ref (z 6 0)), (1, .int p0), (2, .int p1), (3, .ref o)]) G dL_differ_17 (by decide) rfl rfl ?_
      refine jv_iconst (q := 20) (v := nI 2) G dL_differ_19 (by decide) rfl ?_
      refine jv_iret G hr dL_differ_20 (Nat.le_of_ble_eq_true rfl) (Nat.le_of_ble_eq_true rfl) ?_
      exact lP_n en (by decide) hR1 f1
theorem le_difference {M : mA} {p0 : Int32} {p1 : Int32} {p2 : Int32} {p3 : Int32} : ((m_dcF M p0 p1 p2 p3, m_dce M p0 p1 p2 p3, M)).1 ≤ 3 := by
  show m_dcF M p0 p1 p2 p3 ≤ 3
  unfold m_dcF
  repeat' split
  all_goals first | decide | simp
set_option maxHeartbeats 4000000 in
set_option maxRecDepth 100000 in
theorem w_difference {lA : Launch} (hlt : lA.stackTraces = false) {D : jv_D} {base : Nat} {z : Nat → Nat → Nat} {T : Nat → Nat} {N : Nat → Nat → Nat} {tO : Nat → Nat} {h : jv_H} {M : mA} (hR : cl_R z T N tO h M) {o : Nat} (ho : jv_sh h o = some (.inr (.long, 1))) {p0 : Int32} {p1 : Int32} {p2 : Int32} {p3 : Int32} : jv_Met lA D base yL_difference (.codeWith yL_difference cL_difference 7 (some .int) [(0, 14, 17, 19), (0, 14, 21, 21), (0, 14, 25, 87)]) 8 5 30 [.ref (z 6 0), .int p0, .int p1, .int p2, .int p3, .ref o] h (lP z tO o h ((m_dcF M p0 p1 p2 p3, m_dce M p0 p1 p2 p3, M))) jv_no := by
  refine jv_ofVH (lo := [(0, .ref (z 6 0)), (1, .int p0), (2, .int p1), (3, .int p2), (4, .int p3), (5, .ref o)]) hlt (by decide) (Nat.le_of_ble_eq_true rfl) rfl (fun E hEl hEd hEz Z G hr ht hnm => ?_)
  subst hEl; subst hEd; subst hEz
  refine jv_aload (q := 2) G 5 dL_difference_0 rfl rfl ?_
  refine jv_iconst (q := 3) (v := nI 0) G dL_difference_2 (by decide) rfl ?_
  refine jv_aload_n (q := 4) G 0 dL_difference_3 rfl rfl rfl ?_
  refine jv_iload_n (q := 5) G 1 dL_difference_4 rfl rfl rfl ?_
  refine jv_iload_n (q := 6) G 2 dL_difference_5 rfl rfl rfl ?_
  refine jv_iload_n (q := 7) G 3 dL_difference_6 rfl rfl rfl ?_
  refine jv_iload (q := 9) G 4 dL_difference_7 rfl rfl ?_
  refine jv_callV (q := 12) (As := [.int p0, .int p1, .int p2, .int p3]) (rest := [.int (nI 0), .ref o]) G Z ml_L_83 (k_difference hlt hR) hR.1.1.1 dL_difference_9 rfl (by decide) (by decide) (by decide) (by decide) (Nat.le_of_ble_eq_true rfl) rfl rfl (fun v1 h1 y1 => ?_) (fun cx h1 yx => ?_)
  · obtain ⟨e0, rfl, hR1, f1⟩ := y1
    show jv_V E 7 h1 (0 + 5) (0 + 30) (jv_Q E (lP z tO o h ((m_dcF M p0 p1 p2 p3, m_dce M p0 p1 p2 p3, M))) jv_no 5 30) 12 [(0, .ref (z 6 0)), (1, .int p0), (2, .int p1), (3, .int p2), (4, .int p3), (5, .ref o)] [.int (((m_dcF M p0 p1 p2 p3, m_dce M p0 p1 p2 p3, M)).2.1), .int (nI 0), .ref o]
    refine jv_i2l (q := 13) G dL_difference_12 rfl rfl ?_
    refine jv_last (q := 14) G dL_difference_13 ((f1.sh o).trans ho) rfl (by omega) (by decide) rfl ?_
    refine jv_goto (q := 29) G dL_difference_14 (by decide) ?_
    refine jv_iconst (q := 30) (v := nI 0) G dL_difference_29 (by decide) rfl ?_
    refine jv_iret G hr dL_difference_30 (Nat.le_of_ble_eq_true rfl) (Nat.le_of_ble_eq_true rfl) ?_
    exact lP_0 e0 hR1 f1 ho rfl
  · obtain ⟨n0, y2, hR1, f1⟩ := yx
    have hle := le_difference (M := M) (p0 := p0) (p1 := p1) (p2 := p2) (p3 := p3)
    have n0 : ¬ ((m_dcF M p0 p1 p2 p3, m_dce M p0 p1 p2 p3, M)).1 = 0 := n0
    have alt : ((m_dcF M p0 p1 p2 p3, m_dce M p0 p1 p2 p3, M)).1 = 1 ∨ ((m_dcF M p0 p1 p2 p3, m_dce M p0 p1 p2 p3, M)).1 = 2 ∨ ((m_dcF M p0 p1 p2 p3, m_dce M p0 p1 p2 p3, M)).1 = 3 := by omega
    rcases alt with en | en | en
    · have ec : cx = "java/lang/IndexOutOfBoundsException" := by rw [y2, en]; rfl
      subst ec
      refine jv_catch (k := "java/lang/IndexOutOfBoundsException") (q := 17) (a := []) (x := (0, 14, 17, 19)) (b := [(0, 14, 21, 21), (0, 14, 25, 87)]) G ht rfl (by decide) (fun w hw => by cases hw) (by decide) (by decide) ck_19 ct_19 rfl (fun v => ?_)
      refine jv_astore (q := 19) (lo' := [(6, .ref v), (0, .ref (z 6 0)), (1, .int p0), (2, .int p1), (3, .int p2), (4, .int p3), (5, .ref o)]) G dL_difference_17 (by decide) rfl rfl ?_
      refine jv_iconst (q := 20) (v := nI 1) G dL_difference_19 (by decide) rfl ?_
      refine jv_iret G hr dL_difference_20 (Nat.le_of_ble_eq_true rfl) (Nat.le_of_ble_eq_true rfl) ?_
      exact lP_n en (by decide) hR1 f1
    · have ec : cx = "java/lang/IllegalStateException" := by rw [y2, en]; rfl
      subst ec
      refine jv_catch (k := "java/lang/IllegalStateException") (q := 21) (a := [(0, 14, 17, 19)]) (x := (0, 14, 21, 21)) (b := [(0, 14, 25, 87)]) G ht rfl (by decide) (fun w hw => by
        simp only [List.mem_cons, List.not_mem_nil, or_false] at hw
        subst hw
        exact ⟨by decide, "java/lang/IndexOutOfBoundsException", by decide, ck_19, by decide⟩) (by decide) (by decide) ck_21 ct_21 rfl (fun v => ?_)
      refine jv_astore (q := 23) (lo' := [(6, .ref v), (0, .ref (z 6 0)), (1, .int p0), (2, .int p1), (3, .int p2), (4, .int p3), (5, .ref o)]) G dL_difference_21 (by decide) rfl rfl ?_
      refine jv_iconst (q := 24) (v := nI 2) G dL_difference_23 (by decide) rfl ?_
      refine jv_iret G hr dL_difference_24 (Nat.le_of_ble_eq_true rfl) (Nat.le_of_ble_eq_true rfl) ?_
      exact lP_n en (by decide) hR1 f1
    · have ec : cx = "java/util/NoSuchElementException" := by rw [y2, en]; rfl
      subst ec
      refine jv_catch (k := "java/util/NoSuchElementException") (q := 25) (a := [(0, 14, 17, 19), (0, 14, 21, 21)]) (x := (0, 14, 25, 87)) (b := []) G ht rfl (by decide) (fun w hw => by
        simp only [List.mem_cons, List.not_mem_nil, or_false] at hw
        rcases hw with rfl | rfl
        · exact ⟨by decide, "java/lang/IndexOutOfBoundsException", by decide, ck_19, by decide⟩
        · exact ⟨by decide, "java/lang/IllegalStateException", by decide, ck_21, by decide⟩) (by decide) (by decide) ck_87 ct_87 rfl (fun v => ?_)
      refine jv_astore (q := 27) (lo' := [(6, .ref v), (0, .ref (z 6 0)), (1, .int p0), (2, .int p1), (3, .int p2), (4, .int p3), (5, .ref o)]) G dL_difference_25 (by decide) rfl rfl ?_
      refine jv_iconst (q := 28) (v := nI 3) G dL_difference_27 (by decide) rfl ?_
      refine jv_iret G hr dL_difference_28 (Nat.le_of_ble_eq_true rfl) (Nat.le_of_ble_eq_true rfl) ?_
      exact lP_n en (by decide) hR1 f1
theorem le_compatible {M : mA} {p0 : Int32} {p1 : Int32} : ((m_paF M p0 p1, m_cmp M p0 p1, M)).1 ≤ 2 := by
  show m_paF M p0 p1 ≤ 2
  unfold m_paF
  repeat' split
  all_goals first | decide | simp
theorem b01_compatible {M : mA} {p0 : Int32} {p1 : Int32} : ((m_paF M p0 p1, m_cmp M p0 p1, M)).2.1 = 0 ∨ ((m_paF M p0 p1, m_cmp M p0 p1, M)).2.1 = 1 := by
  show m_cmp M p0 p1 = 0 ∨ m_cmp M p0 p1 = 1
  unfold m_cmp
  split
  · next i j _ _ => cases m_any (m_bkp (decide (j = i)) (ma_t M i) (ma_t M j)) 5 <;> first | exact Or.inl rfl | exact Or.inr rfl
  · exact Or.inl rfl
set_option maxHeartbeats 4000000 in
set_option maxRecDepth 100000 in
theorem w_compatible {lA : Launch} (hlt : lA.stackTraces = false) {D : jv_D} {base : Nat} {z : Nat → Nat → Nat} {T : Nat → Nat} {N : Nat → Nat → Nat} {tO : Nat → Nat} {h : jv_H} {M : mA} (hR : cl_R z T N tO h M) {o : Nat} (ho : jv_sh h o = some (.inr (.long, 1))) {p0 : Int32} {p1 : Int32} : jv_Met lA D base yL_compatible (.codeWith yL_compatible cL_compatible 5 (some .int) [(0, 17, 20, 19), (0, 17, 24, 21)]) 9 4 24 [.ref (z 6 0), .int p0, .int p1, .ref o] h (lP z tO o h ((m_paF M p0 p1, m_cmp M p0 p1, M))) jv_no := by
  refine jv_ofVH (lo := [(0, .ref (z 6 0)), (1, .int p0), (2, .int p1), (3, .ref o)]) hlt (by decide) (Nat.le_of_ble_eq_true rfl) rfl (fun E hEl hEd hEz Z G hr ht hnm => ?_)
  subst hEl; subst hEd; subst hEz
  refine jv_aload_n (q := 1) G 3 dL_compatible_0 rfl rfl rfl ?_
  refine jv_iconst (q := 2) (v := nI 0) G dL_compatible_1 (by decide) rfl ?_
  refine jv_aload_n (q := 3) G 0 dL_compatible_2 rfl rfl rfl ?_
  refine jv_iload_n (q := 4) G 1 dL_compatible_3 rfl rfl rfl ?_
  refine jv_iload_n (q := 5) G 2 dL_compatible_4 rfl rfl rfl ?_
  refine jv_callV (q := 8) (As := [.int p0, .int p1]) (rest := [.int (nI 0), .ref o]) G Z ml_L_89 (k_compatible hlt hR) hR.1.1.1 dL_compatible_5 rfl (by decide) (by decide) (by decide) (by decide) (Nat.le_of_ble_eq_true rfl) rfl rfl (fun v1 h1 y1 => ?_) (fun cx h1 yx => ?_)
  · obtain ⟨e0, rfl, hR1, f1⟩ := y1
    show jv_V E 5 h1 (0 + 4) (0 + 24) (jv_Q E (lP z tO o h ((m_paF M p0 p1, m_cmp M p0 p1, M))) jv_no 4 24) 8 [(0, .ref (z 6 0)), (1, .int p0), (2, .int p1), (3, .ref o)] [.int (((m_paF M p0 p1, m_cmp M p0 p1, M)).2.1), .int (nI 0), .ref o]
    refine jv_if_eq (q := 11) (tgt := 15) G dL_compatible_8 (by decide) rfl (fun c1 => ?_) (fun c1 => ?_)
    · refine jv_lconst (q := 16) (v := 0) G dL_compatible_15 (by decide) rfl ?_
      refine jv_last (q := 17) G dL_compatible_16 ((f1.sh o).trans ho) rfl (by omega) (by decide) rfl ?_
      refine jv_goto (q := 28) G dL_compatible_17 (by decide) ?_
      refine jv_iconst (q := 29) (v := nI 0) G dL_compatible_28 (by decide) rfl ?_
      refine jv_iret G hr dL_compatible_29 (Nat.le_of_ble_eq_true rfl) (Nat.le_of_ble_eq_true rfl) ?_
      exact lP_0 e0 hR1 f1 ho (by rw [c1]; rfl)
    · refine jv_lconst (q := 12) (v := 1) G dL_compatible_11 (by decide) rfl ?_
      refine jv_goto (q := 16) G dL_compatible_12 (by decide) ?_
      refine jv_last (q := 17) G dL_compatible_16 ((f1.sh o).trans ho) rfl (by omega) (by decide) rfl ?_
      refine jv_goto (q := 28) G dL_compatible_17 (by decide) ?_
      refine jv_iconst (q := 29) (v := nI 0) G dL_compatible_28 (by decide) rfl ?_
      refine jv_iret G hr dL_compatible_29 (Nat.le_of_ble_eq_true rfl) (Nat.le_of_ble_eq_true rfl) ?_
      exact lP_0 e0 hR1 f1 ho (by rw [b01_compatible.resolve_left c1]; rfl)
  · obtain ⟨n0, y2, hR1, f1⟩ := yx
    have hle := le_compatible (M := M) (p0 := p0) (p1 := p1)
    have n0 : ¬ ((m_paF M p0 p1, m_cmp M p0 p1, M)).1 = 0 := n0
    have alt : ((m_paF M p0 p1, m_cmp M p0 p1, M)).1 = 1 ∨ ((m_paF M p0 p1, m_cmp M p0 p1, M)).1 = 2 := by omega
    rcases alt with en | en
    · have ec : cx = "java/lang/IndexOutOfBoundsException" := by rw [y2, en]; rfl
      subst ec
      refine jv_catch (k := "java/lang/IndexOutOfBoundsException") (q := 20) (a := []) (x := (0, 17, 20, 19)) (b := [(0, 17, 24, 21)]) G ht rfl (by decide) (fun w hw => by cases hw) (by decide) (by decide) ck_19 ct_19 rfl (fun v => ?_)
      refine jv_astore (q := 22) (lo' := [(4, .ref v), (0, .ref (z 6 0)), (1, .int p0), (2, .int p1), (3, .ref o)]) G dL_compatible_20 (by decide) rfl rfl ?_
      refine jv_iconst (q := 23) (v := nI 1) G dL_compatible_22 (by decide) rfl ?_
      refine jv_iret G hr dL_compatible_23 (Nat.le_of_ble_eq_true rfl) (Nat.le_of_ble_eq_true rfl) ?_
      exact lP_n en (by decide) hR1 f1
    · have ec : cx = "java/lang/IllegalStateException" := by rw [y2, en]; rfl
      subst ec
      refine jv_catch (k := "java/lang/IllegalStateException") (q := 24) (a := [(0, 17, 20, 19)]) (x := (0, 17, 24, 21)) (b := []) G ht rfl (by decide) (fun w hw => by
        simp only [List.mem_cons, List.not_mem_nil, or_false] at hw
        subst hw
        exact ⟨by decide, "java/lang/IndexOutOfBoundsException", by decide, ck_19, by decide⟩) (by decide) (by decide) ck_21 ct_21 rfl (fun v => ?_)
      refine jv_astore (q := 26) (lo' := [(4, .ref v), (0, .ref (z 6 0)), (1, .int p0), (2, .int p1), (3, .ref o)]) G dL_compatible_24 (by decide) rfl rfl ?_
      refine jv_iconst (q := 27) (v := nI 2) G dL_compatible_26 (by decide) rfl ?_
      refine jv_iret G hr dL_compatible_27 (Nat.le_of_ble_eq_true rfl) (Nat.le_of_ble_eq_true rfl) ?_
      exact lP_n en (by decide) hR1 f1
theorem le_look {M : mA} {p0 : Int32} {p1 : Int32} : ((m_eF M p0, m_look M p0 p1, M)).1 ≤ 1 := by
  show m_eF M p0 ≤ 1
  unfold m_eF
  repeat' split
  all_goals first | decide | simp
set_option maxHeartbeats 4000000 in
set_option maxRecDepth 100000 in
theorem w_look {lA : Launch} (hlt : lA.stackTraces = false) {D : jv_D} {base : Nat} {z : Nat → Nat → Nat} {T : Nat → Nat} {N : Nat → Nat → Nat} {tO : Nat → Nat} {h : jv_H} {M : mA} (hR : cl_R z T N tO h M) {o : Nat} (ho : jv_sh h o = some (.inr (.long, 1))) {p0 : Int32} {p1 : Int32} : jv_Met lA D base yL_look (.codeWith yL_look cL_look 5 (some .int) [(0, 10, 13, 19)]) 4 1 6 [.ref (z 6 0), .int p0, .int p1, .ref o] h (lP z tO o h ((m_eF M p0, m_look M p0 p1, M))) jv_no := by
  refine jv_ofVH (lo := [(0, .ref (z 6 0)), (1, .int p0), (2, .int p1), (3, .ref o)]) hlt (by decide) (Nat.le_of_ble_eq_true rfl) rfl (fun E hEl hEd hEz Z G hr ht hnm => ?_)
  subst hEl; subst hEd; subst hEz
  refine jv_aload_n (q := 1) G 3 dL_look_0 rfl rfl rfl ?_
  refine jv_iconst (q := 2) (v := nI 0) G dL_look_1 (by decide) rfl ?_
  refine jv_aload_n (q := 3) G 0 dL_look_2 rfl rfl rfl ?_
  refine jv_iload_n (q := 4) G 1 dL_look_3 rfl rfl rfl ?_
  refine jv_iload_n (q := 5) G 2 dL_look_4 rfl rfl rfl ?_
  refine jv_callV (q := 8) (As := [.int p0, .int p1]) (rest := [.int (nI 0), .ref o]) G Z ml_L_93 (k_look hlt hR) hR.1.1.1 dL_look_5 rfl (by decide) (by decide) (by decide) (by decide) (Nat.le_of_ble_eq_true rfl) rfl rfl (fun v1 h1 y1 => ?_) (fun cx h1 yx => ?_)
  · obtain ⟨e0, rfl, hR1, f1⟩ := y1
    show jv_V E 5 h1 (0 + 1) (0 + 6) (jv_Q E (lP z tO o h ((m_eF M p0, m_look M p0 p1, M))) jv_no 1 6) 8 [(0, .ref (z 6 0)), (1, .int p0), (2, .int p1), (3, .ref o)] [.int (((m_eF M p0, m_look M p0 p1, M)).2.1), .int (nI 0), .ref o]
    refine jv_i2l (q := 9) G dL_look_8 rfl rfl ?_
    refine jv_last (q := 10) G dL_look_9 ((f1.sh o).trans ho) rfl (by omega) (by decide) rfl ?_
    refine jv_goto (q := 17) G dL_look_10 (by decide) ?_
    refine jv_iconst (q := 18) (v := nI 0) G dL_look_17 (by decide) rfl ?_
    refine jv_iret G hr dL_look_18 (Nat.le_of_ble_eq_true rfl) (Nat.le_of_ble_eq_true rfl) ?_
    exact lP_0 e0 hR1 f1 ho rfl
  · obtain ⟨n0, y2, hR1, f1⟩ := yx
    have hle := le_look (M := M) (p0 := p0) (p1 := p1)
    have n0 : ¬ ((m_eF M p0, m_look M p0 p1, M)).1 = 0 := n0
    have alt : ((m_eF M p0, m_look M p0 p1, M)).1 = 1 := by omega
    have en := alt
    have ec : cx = "java/lang/IndexOutOfBoundsException" := by rw [y2, en]; rfl
    subst ec
    refine jv_catch (k := "java/lang/IndexOutOfBoundsException") (q := 13) (a := []) (x := (0, 10, 13, 19)) (b := []) G ht rfl (by decide) (fun w hw => by cases hw) (by decide) (by decide) ck_19 ct_19 rfl (fun v => ?_)
    refine jv_astore (q := 15) (lo' := [(4, .ref v), (0, .ref (z 6 0)), (1, .int p0), (2, .int p1), (3, .ref o)]) G dL_look_13 (by decide) rfl rfl ?_
    refine jv_iconst (q := 16) (v := nI 1) G dL_look_15 (by decide) rfl ?_
    refine jv_iret G hr dL_look_16 (Nat.le_of_ble_eq_true rfl) (Nat.le_of_ble_eq_true rfl) ?_
    exact lP_n en (by decide) hR1 f1
theorem le_uses {M : mA} {p0 : Int32} : (((m_uses M p0).1, nI (m_uses M p0).2, M)).1 ≤ 1 := by
  show (m_uses M p0).1 ≤ 1
  unfold m_uses
  repeat' split
  all_goals first | decide | simp
set_option maxHeartbeats 4000000 in
set_option maxRecDepth 100000 in
theorem w_uses {lA : Launch} (hlt : lA.stackTraces = false) {D : jv_D} {base : Nat} {z : Nat → Nat → Nat} {T : Nat → Nat} {N : Nat → Nat → Nat} {tO : Nat → Nat} {h : jv_H} {M : mA} (hR : cl_R z T N tO h M) {o : Nat} (ho : jv_sh h o = some (.inr (.long, 1))) {p0 : Int32} : jv_Met lA D base yL_uses (.codeWith yL_uses cL_uses 4 (some .int) [(0, 9, 12, 19)]) 4 1 6 [.ref (z 6 0), .int p0, .ref o] h (lP z tO o h (((m_uses M p0).1, nI (m_uses M p0).2, M))) jv_no := by
  refine jv_ofVH (lo := [(0, .ref (z 6 0)), (1, .int p0), (2, .ref o)]) hlt (by decide) (Nat.le_of_ble_eq_true rfl) rfl (fun E hEl hEd hEz Z G hr ht hnm => ?_)
  subst hEl; subst hEd; subst hEz
  refine jv_aload_n (q := 1) G 2 dL_uses_0 rfl rfl rfl ?_
  refine jv_iconst (q := 2) (v := nI 0) G dL_uses_1 (by decide) rfl ?_
  refine jv_aload_n (q := 3) G 0 dL_uses_2 rfl rfl rfl ?_
  refine jv_iload_n (q := 4) G 1 dL_uses_3 rfl rfl rfl ?_
  refine jv_callV (q := 7) (As := [.int p0]) (rest := [.int (nI 0), .ref o]) G Z ml_L_96 (k_uses hlt hR) hR.1.1.1 dL_uses_4 rfl (by decide) (by decide) (by decide) (by decide) (Nat.le_of_ble_eq_true rfl) rfl rfl (fun v1 h1 y1 => ?_) (fun cx h1 yx => ?_)
  · obtain ⟨e0, rfl, hR1, f1⟩ := y1
    show jv_V E 4 h1 (0 + 1) (0 + 6) (jv_Q E (lP z tO o h (((m_uses M p0).1, nI (m_uses M p0).2, M))) jv_no 1 6) 7 [(0, .ref (z 6 0)), (1, .int p0), (2, .ref o)] [.int ((((m_uses M p0).1, nI (m_uses M p0).2, M)).2.1), .int (nI 0), .ref o]
    refine jv_i2l (q := 8) G dL_uses_7 rfl rfl ?_
    refine jv_last (q := 9) G dL_uses_8 ((f1.sh o).trans ho) rfl (by omega) (by decide) rfl ?_
    refine jv_goto (q := 15) G dL_uses_9 (by decide) ?_
    refine jv_iconst (q := 16) (v := nI 0) G dL_uses_15 (by decide) rfl ?_
    refine jv_iret G hr dL_uses_16 (Nat.le_of_ble_eq_true rfl) (Nat.le_of_ble_eq_true rfl) ?_
    exact lP_0 e0 hR1 f1 ho rfl
  · obtain ⟨n0, y2, hR1, f1⟩ := yx
    have hle := le_uses (M := M) (p0 := p0)
    have n0 : ¬ (((m_uses M p0).1, nI (m_uses M p0).2, M)).1 = 0 := n0
    have alt : (((m_uses M p0).1, nI (m_uses M p0).2, M)).1 = 1 := by omega
    have en := alt
    have ec : cx = "java/lang/IndexOutOfBoundsException" := by rw [y2, en]; rfl
    subst ec
    refine jv_catch (k := "java/lang/IndexOutOfBoundsException") (q := 12) (a := []) (x := (0, 9, 12, 19)) (b := []) G ht rfl (by decide) (fun w hw => by cases hw) (by decide) (by decide) ck_19 ct_19 rfl (fun v => ?_)
    refine jv_astore_n (q := 13) (lo' := [(3, .ref v), (0, .ref (z 6 0)), (1, .int p0), (2, .ref o)]) G dL_uses_12 rfl (by decide) rfl rfl ?_
    refine jv_iconst (q := 14) (v := nI 1) G dL_uses_13 (by decide) rfl ?_
    refine jv_iret G hr dL_uses_14 (Nat.le_of_ble_eq_true rfl) (Nat.le_of_ble_eq_true rfl) ?_
    exact lP_n en (by decide) hR1 f1
