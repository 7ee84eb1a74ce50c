section FR
variable {z : Nat → Nat → Nat} {T : Nat → Nat} {N : Nat → Nat → Nat} {tO : Nat → Nat} {h h1 : jv_H} {M : mA}
theorem a0_F (hR : cl_R z T N tO h M) {k : Nat} {v : Int32} (eh : h1 = jv_wI h (z 6 0) k v) : sF (fun s => decide (s = .inl 7)) h h1 := by
  subst eh
  exact ((cF.rf (S := fun b => b = z 6 0)).wI (b := z 6 0) rfl k v).G.sF (fun b s e q => by rw [q, hR.1.1.1] at e; cases e; rfl)
theorem es_7 : ∀ s, es s = true → (fun s : jv_S => decide (s = .inl 7)) s = false := fun s q => by
  refine decide_eq_false (fun y => ?_)
  subst y; cases q
theorem cl_R.fresh (hR : cl_R z T N tO h M) (hl : M.1.length < 8) {v : Int32} (eh : h1 = jv_wI h (z 6 0) 1 v) : cv_E z T N h1 M.1.length [] ∧ jv_I h1 (z 0 M.1.length) 1 = jv_bI false := by
  have f := a0_F hR eh
  have q := hR.1.2.2.1 M.1.length hl
  have e1 := f.E es_7 q.1
  rw [ma_end.1] at e1
  refine ⟨e1, (f.i q.1.1.1 (es_7 _ rfl) 1).trans ?_⟩
  rw [q.2.2.1, ma_end.2]
theorem nSE (hR : cl_R z T N tO h M) {e : Nat} (he : e < 8) {b : Nat} {s : jv_S} (hs : jv_sh h b = some s) (n : es s = false) : ¬ (tO b = z 0 e ∨ ∃ k, k < 10 ∧ tO b = T (10 * e + k)) := fun q => by
  rw [hR.2.2.2.2.2.2.2.2.2.2 b s hs n] at q
  rcases q with q | ⟨k, hk, q⟩
  · rw [q, hR.E2 he] at hs; cases hs; cases n
  · rw [q, hR.T5 (show 10 * e + k < 80 by omega)] at hs; cases hs; cases n
end FR
set_option maxHeartbeats 4000000 in
set_option maxRecDepth 100000 in
theorem k_edition {lA : Launch} (hlt : lA.stackTraces = false) {D : jv_D} {base : Nat} {z : Nat → Nat → Nat} {T : Nat → Nat} {N : Nat → Nat → Nat} {tO : Nat → Nat} {h : jv_H} {M : mA} (hR : cl_R z T N tO h M) : jv_Met lA D base yX7_edition (.code yX7_edition cX7_edition 1 (some .int)) 2 1 6 [.ref (z 6 0)] h (pC z tO h (m_ed M)) (pX z tO h ["java/lang/UnsupportedOperationException"] (m_ed M)) := by
  refine jv_ofV (lo := [(0, .ref (z 6 0))]) hlt (by decide) (Nat.le_of_ble_eq_true rfl) rfl (fun E hEl hEd hEz Z G hr ht hnm => ?_)
  subst hEl; subst hEd; subst hEz
  have hl8 := hR.1.2.1.2.1; have hl12 := hR.1.2.1.2.2.2
  refine jv_aload_n (q := 1) G 0 dX7_edition_0 rfl rfl rfl ?_
  refine jv_callV (q := 4) (As := []) (rest := []) G Z ml_X7_43 (k_newEdition hlt hR) hR.1.1.1 dX7_edition_1 rfl (by decide) (by decide) (by decide) (by decide) (Nat.le_of_ble_eq_true rfl) rfl rfl (fun v2 h1 y3 => ?_) (fun cx hx yx => jv_out G ht (Nat.le_of_ble_eq_true rfl) (Nat.le_of_ble_eq_true rfl) (by obtain ⟨y1, y2, rfl⟩ := yx; exact pX_o (o' := (1, 0, M)) (by unfold m_ed; rw [if_pos y1]) ⟨(show ¬ (1 : Nat) = 0 by decide), y2, ⟨_, _, hR⟩, .rf⟩))
  obtain ⟨hl9, rfl, eh9⟩ := y3
  show jv_V E 1 h1 (0 + 1) (0 + 6) (jv_Q E (pC z tO h (m_ed M)) (pX z tO h ["java/lang/UnsupportedOperationException"] (m_ed M)) 1 6) 4 [(0, .ref (z 6 0))] [.ref (z 0 M.1.length)]
  obtain ⟨hE9, hs9⟩ := hR.fresh hl9 eh9
  have fA := a0_F hR eh9
  refine jv_getI (q := 7) G dX7_edition_4 fl_X7_47 rfl hE9.1.1 hE9.1.2.2.2.2.2.1 rfl ?_
  refine jv_iret G hr dX7_edition_7 (Nat.le_of_ble_eq_true rfl) (Nat.le_of_ble_eq_true rfl) ?_
  obtain ⟨hRn, sfn⟩ := hR.app hl9 (by rw [eh9]; exact (cG.rf (S := fun b => b = z 6 0 ∨ (tO b = z 0 M.1.length ∨ ∃ k, k < 10 ∧ tO b = T (10 * M.1.length + k)))).wI (b := z 6 0) (Or.inl rfl) 1 _) (fun j => by rw [eh9]; rfl) (by rw [eh9, oI_o, if_neg (by decide)]) (by rw [eh9]; exact jv_I_self _ _ _ _) hE9 hs9 ⟨fun i j t t' q _ _ => by simp at q, fun t q => by cases q⟩
  exact pC_o (o' := (0, nI M.1.length, M.1 ++ [(false, [])], M.2)) (by unfold m_ed; rw [if_neg (by omega)]) ⟨rfl, rfl, ⟨_, _, hRn⟩, sfn⟩
set_option maxHeartbeats 4000000 in
set_option maxRecDepth 100000 in
theorem k_copy {lA : Launch} (hlt : lA.stackTraces = false) {D : jv_D} {base : Nat} {z : Nat → Nat → Nat} {T : Nat → Nat} {N : Nat → Nat → Nat} {tO : Nat → Nat} {h : jv_H} {M : mA} (hR : cl_R z T N tO h M) {p0 : Int32} : jv_Met lA D base yX7_copy (.code yX7_copy cX7_copy 4 (some .int)) 5 3 18 [.ref (z 6 0), .int p0] h (pC z tO h (m_cy M p0)) (pX z tO h ["java/lang/IndexOutOfBoundsException", "java/lang/IllegalStateException", "java/lang/UnsupportedOperationException"] (m_cy M p0)) := by
  refine jv_ofV (lo := [(0, .ref (z 6 0)), (1, .int p0)]) hlt (by decide) (Nat.le_of_ble_eq_true rfl) rfl (fun E hEl hEd hEz Z G hr ht hnm => ?_)
  subst hEl; subst hEd; subst hEz
  have hl8 := hR.1.2.1.2.1; have hl12 := hR.1.2.1.2.2.2
  refine jv_aload_n (q := 1) G 0 dX7_copy_0 rfl rfl rfl ?_
  refine jv_iload_n (q := 2) G 1 dX7_copy_1 rfl rfl rfl ?_
  refine jv_callV (q := 5) (As := [.int p0]) (rest := []) G Z ml_X7_51 (k_sealedEdition hlt hR) hR.1.1.1 dX7_copy_2 rfl (by decide) (by decide) (by decide) (by decide) (Nat.le_of_ble_eq_true rfl) rfl rfl (fun v2 h1 y3 => ?_) (fun cx hx yx => jv_out G ht (Nat.le_of_ble_eq_true rfl) (Nat.le_of_ble_eq_true rfl) (by obtain ⟨rfl, y1 | ⟨kq, y1, y2, y3⟩⟩ := yx; exact pX_o (o' := (1, 0, M)) (by unfold m_cy; rw [y1.1]) ⟨(show ¬ (1 : Nat) = 0 by decide), y1.2, ⟨_, _, hR⟩, .rf⟩; exact pX_o (o' := (2, 0, M)) (by unfold m_cy; rw [y1]; dsimp only; rw [y2]; rfl) ⟨(show ¬ (2 : Nat) = 0 by decide), y3, ⟨_, _, hR⟩, .rf⟩))
  obtain ⟨u0, hu0, rfl, zu0, hsu0, rfl, rfl⟩ := y3
  show jv_V E 4 h (0 + 2) (0 + 12) (jv_Q E (pC z tO h (m_cy M (nI u0))) (pX z tO h ["java/lang/IndexOutOfBoundsException", "java/lang/IllegalStateException", "java/lang/UnsupportedOperationException"] (m_cy M (nI u0))) 3 18) 5 [(0, .ref (z 6 0)), (1, .int (nI u0))] [.ref (z 0 u0)]
  have q8u0 : u0 < 8 := by omega
  have hEu0 := (hR.1.2.2.1 u0 q8u0).1; have hUu0 := (hR.1.2.2.1 u0 q8u0).2.2.2 hsu0; have sou0 := (hR.1.2.2.2 u0 q8u0).2.2 hsu0
  refine jv_astore_n (q := 6) (lo' := [(2, .ref (z 0 u0)), (0, .ref (z 6 0)), (1, .int (nI u0))]) G dX7_copy_5 rfl (by decide) rfl rfl ?_
  refine jv_aload_n (q := 7) G 1 dX7_copy_6 rfl rfl rfl ?_
  refine jv_callV (q := 10) (As := []) (rest := []) G Z ml_X7_43 (k_newEdition hlt hR) hR.1.1.1 dX7_copy_7 rfl (by decide) (by decide) (by decide) (by decide) (Nat.le_of_ble_eq_true rfl) rfl rfl (fun v5 h4 y6 => ?_) (fun cx hx yx => jv_out G ht (Nat.le_of_ble_eq_true rfl) (Nat.le_of_ble_eq_true rfl) (by obtain ⟨y1, y2, rfl⟩ := yx; exact pX_o (o' := (3, 0, M)) ((show m_cy M (nI u0) = (3, 0, M) by unfold m_cy; rw [zu0]; dsimp only; rw [hsu0, if_pos rfl, if_pos y1])) ⟨(show ¬ (3 : Nat) = 0 by decide), y2, ⟨_, _, hR⟩, .rf⟩))
  obtain ⟨hl9, rfl, eh9⟩ := y6
  show jv_V E 4 h4 (0 + 2 + 1) (0 + 12 + 6) (jv_Q E (pC z tO h (m_cy M (nI u0))) (pX z tO h ["java/lang/IndexOutOfBoundsException", "java/lang/IllegalStateException", "java/lang/UnsupportedOperationException"] (m_cy M (nI u0))) 3 18) 10 [(2, .ref (z 0 u0)), (0, .ref (z 6 0)), (1, .int (nI u0))] [.ref (z 0 M.1.length)]
  obtain ⟨hE9, hs9⟩ := hR.fresh hl9 eh9
  have fA := a0_F hR eh9
  refine jv_astore_n (q := 11) (lo' := [(3, .ref (z 0 M.1.length)), (2, .ref (z 0 u0)), (0, .ref (z 6 0)), (1, .int (nI u0))]) G dX7_copy_10 rfl (by decide) rfl rfl ?_
  refine jv_aload_n (q := 12) G 0 dX7_copy_11 rfl rfl rfl ?_
  refine jv_aload_n (q := 13) G 1 dX7_copy_12 rfl rfl rfl ?_
  have u0l := hu0
  have hf9 := fA.E es_7 hEu0
  have dT := hR.2.2.2.2.2.2.1; have dE := hR.2.2.2.2.2.1
  refine jv_callV (q := 16) (As := [.ref (z 0 u0)]) (rest := []) G Z ml_X7_55 (k_takeAll hlt hE9 (hR.1.2.2.1 M.1.length hl9).2.1 hf9 (hR.1.2.2.1 u0 q8u0).2.1 (fun k k' hk hk' q => by have := dT _ _ (by omega) (by omega) q; omega) (fun q => by have := dE _ _ hl9 q8u0 q; omega) (fun k hk q => sh_no (hR.E2 hl9) (hR.T5 (show 10 * u0 + k < 80 by omega)) (by intro y; cases y) q) (fun k hk q => sh_no (hR.T5 (show 10 * M.1.length + k < 80 by omega)) (hR.E2 q8u0) (by intro y; cases y) q) (fun t ht => ((hR.1.2.2.2 u0 q8u0).2.1 t ht).2.1) (hR.1.2.2.2 u0 q8u0).1) hE9.1.1 dX7_copy_13 rfl (by decide) (by decide) (by decide) (by decide) (Nat.le_of_ble_eq_true rfl) rfl rfl (fun v8 h7 y9 => ?_) (fun _ _ hx => hx.elim)
  obtain ⟨rfl, hG9, hE8, hI8⟩ := y9
  show jv_V E 4 h7 (0 + 2 + 1) (0 + 12 + 6) (jv_Q E (pC z tO h (m_cy M (nI u0))) (pX z tO h ["java/lang/IndexOutOfBoundsException", "java/lang/IllegalStateException", "java/lang/UnsupportedOperationException"] (m_cy M (nI u0))) 3 18) 16 [(3, .ref (z 0 M.1.length)), (2, .ref (z 0 u0)), (0, .ref (z 6 0)), (1, .int (nI u0))] []
  refine jv_aload_n (q := 17) G 0 dX7_copy_16 rfl rfl rfl ?_
  refine jv_getI (q := 20) G dX7_copy_17 fl_X7_47 rfl hE8.1.1 hE8.1.2.2.2.2.2.1 rfl ?_
  refine jv_iret G hr dX7_copy_20 (Nat.le_of_ble_eq_true rfl) (Nat.le_of_ble_eq_true rfl) ?_
  have nA : ¬ (tO (z 6 0) = z 0 M.1.length ∨ ∃ k, k < 10 ∧ tO (z 6 0) = T (10 * M.1.length + k)) := nSE hR hl9 hR.1.1.1 rfl
  obtain ⟨hRn, sfn⟩ := hR.app hl9 (by
    have f1 : cG (fun b => b = z 6 0 ∨ (tO b = z 0 M.1.length ∨ ∃ k, k < 10 ∧ tO b = T (10 * M.1.length + k))) h _ := (cG.rf.wI (b := z 6 0) (Or.inl rfl) 1 (nI (M.1.length + 1)))
    rw [← eh9] at f1
    exact f1.tr (hG9.mono (fun b q => Or.inr q))) (fun j => (hG9.p nA j).trans (by rw [eh9]; rfl)) ((hG9.i nA 3).trans (by rw [eh9, oI_o, if_neg (by decide)])) ((hG9.i nA 1).trans (by rw [eh9]; exact jv_I_self _ _ _ _)) hE8 (hI8.trans hs9) ⟨(hR.1.2.2.2 u0 q8u0).1, (hR.1.2.2.2 u0 q8u0).2.1⟩
  exact pC_o (o' := (0, nI M.1.length, M.1 ++ [(false, ma_t M u0)], M.2)) (by unfold m_cy; rw [zu0]; dsimp only; rw [hsu0, if_pos rfl, if_neg (by omega)]) ⟨rfl, rfl, ⟨_, _, hRn⟩, sfn⟩
set_option maxHeartbeats 4000000 in
set_option maxRecDepth 100000 in
theorem k_type {lA : Launch} (hlt : lA.stackTraces = false) {D : jv_D} {base : Nat} {z : Nat → Nat → Nat} {T : Nat → Nat} {N : Nat → Nat → Nat} {tO : Nat → Nat} {h : jv_H} {M : mA} (hR : cl_R z T N tO h M) {p0 : Int32} {p1 : Int32} {p2 : Bool} {p3 : Bool} {p4 : Int32} {p5 : Bool} {p6 : Int32} : jv_Met lA D base yX7_type (.code yX7_type cX7_type 9 (some .int)) 4 3 18 [.ref (z 6 0), .int p0, .int p1, .int (jv_bI p2), .int (jv_bI p3), .int p4, .int (jv_bI p5), .int p6] h (pC z tO h (m_ty M p0 p1 p2 p3 p4 p5 p6)) (pX z tO h ["java/lang/IndexOutOfBoundsException", "java/lang/IllegalStateException", "java/lang/IllegalArgumentException", "java/lang/UnsupportedOperationException"] (m_ty M p0 p1 p2 p3 p4 p5 p6)) := by
  refine jv_ofV (lo := [(0, .ref (z 6 0)), (1, .int p0), (2, .int p1), (3, .int (jv_bI p2)), (4, .int (jv_bI p3)), (5, .int p4), (6, .int (jv_bI p5)), (7, .int p6)]) hlt (by decide) (Nat.le_of_ble_eq_true rfl) rfl (fun E hEl hEd hEz Z G hr ht hnm => ?_)
  subst hEl; subst hEd; subst hEz
  have hl8 := hR.1.2.1.2.1; have hl12 := hR.1.2.1.2.2.2
  refine jv_aload_n (q := 1) G 0 dX7_type_0 rfl rfl rfl ?_
  refine jv_iload_n (q := 2) G 1 dX7_type_1 rfl rfl rfl ?_
  refine jv_callV (q := 5) (As := [.int p0]) (rest := []) G Z ml_X7_59 (k_openEdition hlt hR) hR.1.1.1 dX7_type_2 rfl (by decide) (by decide) (by decide) (by decide) (Nat.le_of_ble_eq_true rfl) rfl rfl (fun v2 h1 y3 => ?_) (fun cx hx yx => jv_out G ht (Nat.le_of_ble_eq_true rfl) (Nat.le_of_ble_eq_true rfl) (by obtain ⟨rfl, y1 | ⟨kq, y1, y2, y3⟩⟩ := yx; exact pX_o (o' := (1, 0, M)) (op_1 y1.1) ⟨(show ¬ (1 : Nat) = 0 by decide), y1.2, ⟨_, _, hR⟩, .rf⟩; exact pX_o (o' := (2, 0, M)) (op_2 y1 y2) ⟨(show ¬ (2 : Nat) = 0 by decide), y3, ⟨_, _, hR⟩, .rf⟩))
  obtain ⟨u0, hu0, rfl, zu0, hsu0, rfl, rfl⟩ := y3
  show jv_V E 9 h (0 + 2) (0 + 12) (jv_Q E (pC z tO h (m_ty M (nI u0) p1 p2 p3 p4 p5 p6)) (pX z tO h ["java/lang/IndexOutOfBoundsException", "java/lang/IllegalStateException", "java/lang/IllegalArgumentException", "java/lang/UnsupportedOperationException"] (m_ty M (nI u0) p1 p2 p3 p4 p5 p6)) 3 18) 5 [(0, .ref (z 6 0)), (1, .int (nI u0)), (2, .int p1), (3, .int (jv_bI p2)), (4, .int (jv_bI p3)), (5, .int p4), (6, .int (jv_bI p5)), (7, .int p6)] [.ref (z 0 u0)]
  have q8u0 : u0 < 8 := by omega
  have hEu0 := (hR.1.2.2.1 u0 q8u0).1; have oeu0 := (hR.1.2.2.1 u0 q8u0).2.1; have eou0 := hR.1.2.2.2 u0 q8u0; have ltu0 : (ma_t M u0).length ≤ 10 := hEu0.2.2.2.1
  refine jv_astore (q := 7) (lo' := [(8, .ref (z 0 u0)), (0, .ref (z 6 0)), (1, .int (nI u0)), (2, .int p1), (3, .int (jv_bI p2)), (4, .int (jv_bI p3)), (5, .int p4), (6, .int (jv_bI p5)), (7, .int p6)]) G dX7_type_5 (by decide) rfl rfl ?_
  refine jv_iload_n (q := 8) G 3 dX7_type_7 rfl rfl rfl ?_
  refine jv_callS_I (q := 11) (h1 := h) (As := [.int p1]) (rest := []) (ce' := 0 + 2) (sl' := 0 + 12) (r := jv_bI (rr_lt p1 16)) G Z ml_X7_62 (k_isName hlt) dX7_type_8 rfl (by decide) (by decide) (by decide) (by decide) (Nat.le_of_ble_eq_true rfl) rfl rfl rfl rfl ?_
  refine jv_if_eqB (q := 14) (tgt := 37) G dX7_type_11 (by decide) rfl (fun c4 => ?_) (fun c4 => ?_)
  · refine jv_throwS (text := "no such name or package") G Z ht th_70 (by decide) (by decide) dX7_type_37 dX7_type_40 dX7_type_41 dX7_type_43 dX7_type_46 (Nat.le_of_ble_eq_true rfl) (by decide) (by decide) ?_
    exact pX_o (o' := (3, 0, M)) ((op_0 zu0 hsu0).trans (if_neg (by rw [tyG_eq]; simp [c4]))) ⟨(show ¬ (3 : Nat) = 0 by decide), rfl, ⟨_, _, hR⟩, .rf⟩
  · obtain ⟨n1, hn1, en1, zn1⟩ := rr_lt_t (by decide) c4
    subst en1
    refine jv_iload (q := 16) G 6 dX7_type_14 rfl rfl ?_
    refine jv_iconst (q := 17) (v := nI 4) G dX7_type_16 (by decide) rfl ?_
    refine jv_callS_I (q := 20) (h1 := h) (As := [.int p4, .int (nI 4)]) (rest := []) (ce' := 0 + 2) (sl' := 0 + 12) (r := jv_bI (rr_lt p4 4)) G Z ml_X7_66 (k_isBelow hlt) dX7_type_17 rfl (by decide) (by decide) (by decide) (by decide) (Nat.le_of_ble_eq_true rfl) rfl rfl rfl rfl ?_
    refine jv_if_eqB (q := 23) (tgt := 37) G dX7_type_20 (by decide) rfl (fun c5 => ?_) (fun c5 => ?_)
    · refine jv_throwS (text := "no such name or package") G Z ht th_70 (by decide) (by decide) dX7_type_37 dX7_type_40 dX7_type_41 dX7_type_43 dX7_type_46 (Nat.le_of_ble_eq_true rfl) (by decide) (by decide) ?_
      exact pX_o (o' := (3, 0, M)) ((op_0 zu0 hsu0).trans (if_neg (by rw [tyG_eq]; simp [c4, c5]))) ⟨(show ¬ (3 : Nat) = 0 by decide), rfl, ⟨_, _, hR⟩, .rf⟩
    · obtain ⟨n4, hn4, en4, zn4⟩ := rr_lt_t (by decide) c5
      subst en4
      refine jv_iload (q := 25) G 8 dX7_type_23 rfl rfl ?_
      refine jv_iconst (q := 26) (v := (-1)) G dX7_type_25 (by decide) rfl ?_
      refine jv_icmp_eq (q := 29) (tgt := 47) G dX7_type_26 (by decide) rfl (fun c6 => ?_) (fun c6 => ?_)
      · refine jv_iload_n (q := 48) G 4 dX7_type_47 rfl rfl rfl ?_
        refine jv_if_eqB (q := 51) (tgt := 67) G dX7_type_48 (by decide) rfl (fun c7 => ?_) (fun c7 => ?_)
        · refine jv_aload (q := 69) G 0 dX7_type_67 rfl rfl ?_
          refine jv_iload_n (q := 70) G 3 dX7_type_69 rfl rfl rfl ?_
          refine jv_callV_R (q := 73) (h1 := h) (As := [.int (nI n1)]) (rest := []) (ce' := 0 + 2) (sl' := 0 + 12) (r := ((m_at (ma_t M u0) (nI n1)).map (fun k => T (10 * u0 + k)))) G Z ml_X7_79 (k_named hlt hEu0) hEu0.1.1 dX7_type_70 rfl (by decide) (by decide) (by decide) (by decide) (Nat.le_of_ble_eq_true rfl) rfl rfl rfl rfl ?_
          rcases Option.eq_none_or_eq_some (m_at (ma_t M u0) (nI n1)) with hk10 | ⟨k8, hk10⟩
          · refine jv_topR (y := none) (by rw [hk10]; rfl) ?_
            refine jv_ifnull (q := 76) (tgt := 86) (x := none) G dX7_type_73 (by decide) rfl (fun c11 => ?_) (fun a12 c11 => ?_)
            · refine jv_aload (q := 88) G 0 dX7_type_86 rfl rfl ?_
              refine jv_getI (q := 91) G dX7_type_88 fl_X7_85 rfl hEu0.1.1 hEu0.2.2.1 rfl ?_
              refine jv_bipush (q := 93) (v := nI 10) G dX7_type_91 (by decide) rfl ?_
              refine jv_icmp_ltN (q := 96) (tgt := 106) G dX7_type_93 (by decide) rfl (by omega) (by omega) (fun c13 => ?_) (fun c13 => ?_)
              · refine jv_aload (q := 108) G 0 dX7_type_106 rfl rfl ?_
                refine jv_iload_n (q := 109) G 3 dX7_type_108 rfl rfl rfl ?_
                refine jv_iload_n (q := 110) G 4 dX7_type_109 rfl rfl rfl ?_
                refine jv_iload (q := 112) G 5 dX7_type_110 rfl rfl ?_
                refine jv_iload (q := 114) G 6 dX7_type_112 rfl rfl ?_
                refine jv_iload (q := 116) G 7 dX7_type_114 rfl rfl ?_
                refine jv_iload (q := 118) G 8 dX7_type_116 rfl rfl ?_
                have hsv : p6 = -1 ∨ rr_lt p6 16 = true := by first | exact Or.inl c6 | simp [c4, c5, c6, c7, c13]
                have hiv : p2 = true → p6 = -1 := fun q => by first | exact c6 | simp_all
                refine jv_callV (q := 121) (As := [.int (nI n1), .int (jv_bI p2), .int (jv_bI p3), .int (nI n4), .int (jv_bI p5), .int p6]) (rest := []) G Z ml_X7_93 (k_addType hlt hEu0 oeu0 (by omega) hn1 hk10 ⟨by rw [nI_clamp (by omega)]; omega, by rw [nI_clamp (by omega)]⟩ ⟨oI_s hsv, trivial⟩ (tyN_ok hn1 hn4 hsv hiv)) hEu0.1.1 dX7_type_118 rfl (by decide) (by decide) (by decide) (by decide) (Nat.le_of_ble_eq_true rfl) rfl rfl (fun v15 h14 y16 => ?_) (fun _ _ hx => hx.elim)
                obtain ⟨rfl, hG9, hE8, hI8⟩ := y16
                show jv_V E 9 h14 (0 + 2) (0 + 12) (jv_Q E (pC z tO h (m_ty M (nI u0) (nI n1) p2 p3 (nI n4) p5 p6)) (pX z tO h ["java/lang/IndexOutOfBoundsException", "java/lang/IllegalStateException", "java/lang/IllegalArgumentException", "java/lang/UnsupportedOperationException"] (m_ty M (nI u0) (nI n1) p2 p3 (nI n4) p5 p6)) 3 18) 121 [(8, .ref (z 0 u0)), (0, .ref (z 6 0)), (1, .int (nI u0)), (2, .int (nI n1)), (3, .int (jv_bI p2)), (4, .int (jv_bI p3)), (5, .int (nI n4)), (6, .int (jv_bI p5)), (7, .int p6)] []
                refine jv_aload (q := 123) G 0 dX7_type_121 rfl rfl ?_
                refine jv_getI (q := 126) G dX7_type_123 fl_X7_85 rfl hE8.1.1 hE8.2.2.1 rfl ?_
                refine jv_iret G hr dX7_type_126 (Nat.le_of_ble_eq_true rfl) (Nat.le_of_ble_eq_true rfl) ?_
                have en : mt_n (m_tyN (nI n1) p2 (p2 || p3) (nI n4) p5 p6) = n1 := nI_clamp (by omega)
                obtain ⟨hRn, sfn⟩ := hR.ed (T' := T) (N' := N) hu0 hsu0 hG9 (fun _ _ _ => rfl) (fun _ _ _ _ => rfl) hR.2.2.2.2.2.2.1 oeu0 hE8 (hI8.trans ((hR.1.2.2.1 u0 q8u0).2.2.1.trans (by rw [hsu0]))) (fun q => by cases q) (ty_ok eou0.1 hEu0.n16 (by rw [en]; exact hn1) (by rw [en]; exact hk10) eou0.2.1 ty_new)
                refine pC_o (o' := (0, nI ((ma_t M u0).length + 1), m_put M u0 (false, (ma_t M u0) ++ [m_tyN (nI n1) p2 (p2 || p3) (nI n4) p5 p6]))) ((op_0 zu0 hsu0).trans ((if_pos (by rw [tyG_eq, hk10]; first | (simp [c4, c5, c6, c7, c13]; done) | simp_all)).trans (if_neg (by omega)))) ⟨rfl, ?_, ⟨_, _, hRn⟩, sfn⟩
                rw [List.length_append, List.length_singleton]
              · refine jv_throwS (text := "the edition is full") G Z ht th_88 (by decide) (by decide) dX7_type_96 dX7_type_99 dX7_type_100 dX7_type_102 dX7_type_105 (Nat.le_of_ble_eq_true rfl) (by decide) (by decide) ?_
                exact pX_o (o' := (4, 0, M)) ((op_0 zu0 hsu0).trans ((if_pos (by rw [tyG_eq, hk10]; simp [c4, c5, c6, c7, c13])).trans (if_pos (by omega)))) ⟨(show ¬ (4 : Nat) = 0 by decide), rfl, ⟨_, _, hR⟩, .rf⟩
            · cases c11
          · refine jv_topR (y := (some (T (10 * u0 + k8)))) (by rw [hk10]; rfl) ?_
            obtain ⟨t9, ht9, nt9⟩ := m_at_get hk10
            have lt9 := jv_ltGet ht9
            have k10t9 : k8 < 10 := by have := hEu0.2.2.2.1; omega
            have Ot9 := (hEu0.2.2.2.2.1 k8 t9 ht9).2
            have Vt9 := (hEu0.2.2.2.2.1 k8 t9 ht9).1
            have Yt9 := hEu0.2.1 k8 k10t9
            have bt9n := Ot9.1; have bt9k := Ot9.2.1
            refine jv_ifnull (q := 76) (tgt := 86) (x := (some (T (10 * u0 + k8)))) G dX7_type_73 (by decide) rfl (fun c17 => ?_) (fun a18 c17 => ?_)
            · cases c17
            · refine jv_throwS (text := "there is a type of that name") G Z ht th_70 (by decide) (by decide) dX7_type_76 dX7_type_79 dX7_type_80 dX7_type_82 dX7_type_85 (Nat.le_of_ble_eq_true rfl) (by decide) (by decide) ?_
              exact pX_o (o' := (3, 0, M)) ((op_0 zu0 hsu0).trans (if_neg (by rw [hk10]; simp))) ⟨(show ¬ (3 : Nat) = 0 by decide), rfl, ⟨_, _, hR⟩, .rf⟩
        · refine jv_iload (q := 53) G 8 dX7_type_51 rfl rfl ?_
          refine jv_iconst (q := 54) (v := (-1)) G dX7_type_53 (by decide) rfl ?_
          refine jv_icmp_eq (q := 57) (tgt := 67) G dX7_type_54 (by decide) rfl (fun c19 => ?_) (fun c19 => ?_)
          · refine jv_aload (q := 69) G 0 dX7_type_67 rfl rfl ?_
            refine jv_iload_n (q := 70) G 3 dX7_type_69 rfl rfl rfl ?_
            refine jv_callV_R (q := 73) (h1 := h) (As := [.int (nI n1)]) (rest := []) (ce' := 0 + 2) (sl' := 0 + 12) (r := ((m_at (ma_t M u0) (nI n1)).map (fun k => T (10 * u0 + k)))) G Z ml_X7_79 (k_named hlt hEu0) hEu0.1.1 dX7_type_70 rfl (by decide) (by decide) (by decide) (by decide) (Nat.le_of_ble_eq_true rfl) rfl rfl rfl rfl ?_
            rcases Option.eq_none_or_eq_some (m_at (ma_t M u0) (nI n1)) with hk22 | ⟨k20, hk22⟩
            · refine jv_topR (y := none) (by rw [hk22]; rfl) ?_
              refine jv_ifnull (q := 76) (tgt := 86) (x := none) G dX7_type_73 (by decide) rfl (fun c23 => ?_) (fun a24 c23 => ?_)
              · refine jv_aload (q := 88) G 0 dX7_type_86 rfl rfl ?_
                refine jv_getI (q := 91) G dX7_type_88 fl_X7_85 rfl hEu0.1.1 hEu0.2.2.1 rfl ?_
                refine jv_bipush (q := 93) (v := nI 10) G dX7_type_91 (by decide) rfl ?_
                refine jv_icmp_ltN (q := 96) (tgt := 106) G dX7_type_93 (by decide) rfl (by omega) (by omega) (fun c25 => ?_) (fun c25 => ?_)
                · refine jv_aload (q := 108) G 0 dX7_type_106 rfl rfl ?_
                  refine jv_iload_n (q := 109) G 3 dX7_type_108 rfl rfl rfl ?_
                  refine jv_iload_n (q := 110) G 4 dX7_type_109 rfl rfl rfl ?_
                  refine jv_iload (q := 112) G 5 dX7_type_110 rfl rfl ?_
                  refine jv_iload (q := 114) G 6 dX7_type_112 rfl rfl ?_
                  refine jv_iload (q := 116) G 7 dX7_type_114 rfl rfl ?_
                  refine jv_iload (q := 118) G 8 dX7_type_116 rfl rfl ?_
                  have hsv : p6 = -1 ∨ rr_lt p6 16 = true := by first | exact Or.inl c6 | simp [c4, c5, c6, c7, c19, c25]
                  have hiv : p2 = true → p6 = -1 := fun q => by first | exact c6 | simp_all
                  refine jv_callV (q := 121) (As := [.int (nI n1), .int (jv_bI p2), .int (jv_bI p3), .int (nI n4), .int (jv_bI p5), .int p6]) (rest := []) G Z ml_X7_93 (k_addType hlt hEu0 oeu0 (by omega) hn1 hk22 ⟨by rw [nI_clamp (by omega)]; omega, by rw [nI_clamp (by omega)]⟩ ⟨oI_s hsv, trivial⟩ (tyN_ok hn1 hn4 hsv hiv)) hEu0.1.1 dX7_type_118 rfl (by decide) (by decide) (by decide) (by decide) (Nat.le_of_ble_eq_true rfl) rfl rfl (fun v27 h26 y28 => ?_) (fun _ _ hx => hx.elim)
                  obtain ⟨rfl, hG9, hE8, hI8⟩ := y28
                  show jv_V E 9 h26 (0 + 2) (0 + 12) (jv_Q E (pC z tO h (m_ty M (nI u0) (nI n1) p2 p3 (nI n4) p5 p6)) (pX z tO h ["java/lang/IndexOutOfBoundsException", "java/lang/IllegalStateException", "java/lang/IllegalArgumentException", "java/lang/UnsupportedOperationException"] (m_ty M (nI u0) (nI n1) p2 p3 (nI n4) p5 p6)) 3 18) 121 [(8, .ref (z 0 u0)), (0, .ref (z 6 0)), (1, .int (nI u0)), (2, .int (nI n1)), (3, .int (jv_bI p2)), (4, .int (jv_bI p3)), (5, .int (nI n4)), (6, .int (jv_bI p5)), (7, .int p6)] []
                  refine jv_aload (q := 123) G 0 dX7_type_121 rfl rfl ?_
                  refine jv_getI (q := 126) G dX7_type_123 fl_X7_85 rfl hE8.1.1 hE8.2.2.1 rfl ?_
                  refine jv_iret G hr dX7_type_126 (Nat.le_of_ble_eq_true rfl) (Nat.le_of_ble_eq_true rfl) ?_
                  have en : mt_n (m_tyN (nI n1) p2 (p2 || p3) (nI n4) p5 p6) = n1 := nI_clamp (by omega)
                  obtain ⟨hRn, sfn⟩ := hR.ed (T' := T) (N' := N) hu0 hsu0 hG9 (fun _ _ _ => rfl) (fun _ _ _ _ => rfl) hR.2.2.2.2.2.2.1 oeu0 hE8 (hI8.trans ((hR.1.2.2.1 u0 q8u0).2.2.1.trans (by rw [hsu0]))) (fun q => by cases q) (ty_ok eou0.1 hEu0.n16 (by rw [en]; exact hn1) (by rw [en]; exact hk22) eou0.2.1 ty_new)
                  refine pC_o (o' := (0, nI ((ma_t M u0).length + 1), m_put M u0 (false, (ma_t M u0) ++ [m_tyN (nI n1) p2 (p2 || p3) (nI n4) p5 p6]))) ((op_0 zu0 hsu0).trans ((if_pos (by rw [tyG_eq, hk22]; first | (simp [c4, c5, c6, c7, c19, c25]; done) | simp_all)).trans (if_neg (by omega)))) ⟨rfl, ?_, ⟨_, _, hRn⟩, sfn⟩
                  rw [List.length_append, List.length_singleton]
                · refine jv_throwS (text := "the edition is full") G Z ht th_88 (by decide) (by decide) dX7_type_96 dX7_type_99 dX7_type_100 dX7_type_102 dX7_type_105 (Nat.le_of_ble_eq_true rfl) (by decide) (by decide) ?_
                  exact pX_o (o' := (4, 0, M)) ((op_0 zu0 hsu0).trans ((if_pos (by rw [tyG_eq, hk22]; simp [c4, c5, c6, c7, c19, c25])).trans (if_pos (by omega)))) ⟨(show ¬ (4 : Nat) = 0 by decide), rfl, ⟨_, _, hR⟩, .rf⟩
              · cases c23
            · refine jv_topR (y := (some (T (10 * u0 + k20)))) (by rw [hk22]; rfl) ?_
              obtain ⟨t21, ht21, nt21⟩ := m_at_get hk22
              have lt21 := jv_ltGet ht21
              have k10t21 : k20 < 10 := by have := hEu0.2.2.2.1; omega
              have Ot21 := (hEu0.2.2.2.2.1 k20 t21 ht21).2
              have Vt21 := (hEu0.2.2.2.2.1 k20 t21 ht21).1
              have Yt21 := hEu0.2.1 k20 k10t21
              have bt21n := Ot21.1; have bt21k := Ot21.2.1
              refine jv_ifnull (q := 76) (tgt := 86) (x := (some (T (10 * u0 + k20)))) G dX7_type_73 (by decide) rfl (fun c29 => ?_) (fun a30 c29 => ?_)
              · cases c29
              · refine jv_throwS (text := "there is a type of that name") G Z ht th_70 (by decide) (by decide) dX7_type_76 dX7_type_79 dX7_type_80 dX7_type_82 dX7_type_85 (Nat.le_of_ble_eq_true rfl) (by decide) (by decide) ?_
                exact pX_o (o' := (3, 0, M)) ((op_0 zu0 hsu0).trans (if_neg (by rw [hk22]; simp))) ⟨(show ¬ (3 : Nat) = 0 by decide), rfl, ⟨_, _, hR⟩, .rf⟩
          · exact absurd c6 c19
      · refine jv_iload (q := 31) G 8 dX7_type_29 rfl rfl ?_
        refine jv_callS_I (q := 34) (h1 := h) (As := [.int p6]) (rest := []) (ce' := 0 + 2) (sl' := 0 + 12) (r := jv_bI (rr_lt p6 16)) G Z ml_X7_62 (k_isName hlt) dX7_type_31 rfl (by decide) (by decide) (by decide) (by decide) (Nat.le_of_ble_eq_true rfl) rfl rfl rfl rfl ?_
        refine jv_if_neB (q := 37) (tgt := 47) G dX7_type_34 (by decide) rfl (fun c31 => ?_) (fun c31 => ?_)
        · refine jv_iload_n (q := 48) G 4 dX7_type_47 rfl rfl rfl ?_
          refine jv_if_eqB (q := 51) (tgt := 67) G dX7_type_48 (by decide) rfl (fun c32 => ?_) (fun c32 => ?_)
          · refine jv_aload (q := 69) G 0 dX7_type_67 rfl rfl ?_
            refine jv_iload_n (q := 70) G 3 dX7_type_69 rfl rfl rfl ?_
            refine jv_callV_R (q := 73) (h1 := h) (As := [.int (nI n1)]) (rest := []) (ce' := 0 + 2) (sl' := 0 + 12) (r := ((m_at (ma_t M u0) (nI n1)).map (fun k => T (10 * u0 + k)))) G Z ml_X7_79 (k_named hlt hEu0) hEu0.1.1 dX7_type_70 rfl (by decide) (by decide) (by decide) (by decide) (Nat.le_of_ble_eq_true rfl) rfl rfl rfl rfl ?_
            rcases Option.eq_none_or_eq_some (m_at (ma_t M u0) (nI n1)) with hk35 | ⟨k33, hk35⟩
            · refine jv_topR (y := none) (by rw [hk35]; rfl) ?_
              refine jv_ifnull (q := 76) (tgt := 86) (x := none) G dX7_type_73 (by decide) rfl (fun c36 => ?_) (fun a37 c36 => ?_)
              · refine jv_aload (q := 88) G 0 dX7_type_86 rfl rfl ?_
                refine jv_getI (q := 91) G dX7_type_88 fl_X7_85 rfl hEu0.1.1 hEu0.2.2.1 rfl ?_
                refine jv_bipush (q := 93) (v := nI 10) G dX7_type_91 (by decide) rfl ?_
                refine jv_icmp_ltN (q := 96) (tgt := 106) G dX7_type_93 (by decide) rfl (by omega) (by omega) (fun c38 => ?_) (fun c38 => ?_)
                · refine jv_aload (q := 108) G 0 dX7_type_106 rfl rfl ?_
                  refine jv_iload_n (q := 109) G 3 dX7_type_108 rfl rfl rfl ?_
                  refine jv_iload_n (q := 110) G 4 dX7_type_109 rfl rfl rfl ?_
                  refine jv_iload (q := 112) G 5 dX7_type_110 rfl rfl ?_
                  refine jv_iload (q := 114) G 6 dX7_type_112 rfl rfl ?_
                  refine jv_iload (q := 116) G 7 dX7_type_114 rfl rfl ?_
                  refine jv_iload (q := 118) G 8 dX7_type_116 rfl rfl ?_
                  have hsv : p6 = -1 ∨ rr_lt p6 16 = true := by first | exact Or.inl c6 | simp [c4, c5, c6, c31, c32, c38]
                  have hiv : p2 = true → p6 = -1 := fun q => by first | exact c6 | simp_all
                  refine jv_callV (q := 121) (As := [.int (nI n1), .int (jv_bI p2), .int (jv_bI p3), .int (nI n4), .int (jv_bI p5), .int p6]) (rest := []) G Z ml_X7_93 (k_addType hlt hEu0 oeu0 (by omega) hn1 hk35 ⟨by rw [nI_clamp (by omega)]; omega, by rw [nI_clamp (by omega)]⟩ ⟨oI_s hsv, trivial⟩ (tyN_ok hn1 hn4 hsv hiv)) hEu0.1.1 dX7_type_118 rfl (by decide) (by decide) (by decide) (by decide) (Nat.le_of_ble_eq_true rfl) rfl rfl (fun v40 h39 y41 => ?_) (fun _ _ hx => hx.elim)
                  obtain ⟨rfl, hG9, hE8, hI8⟩ := y41
                  show jv_V E 9 h39 (0 + 2) (0 + 12) (jv_Q E (pC z tO h (m_ty M (nI u0) (nI n1) p2 p3 (nI n4) p5 p6)) (pX z tO h ["java/lang/IndexOutOfBoundsException", "java/lang/IllegalStateException", "java/lang/IllegalArgumentException", "java/lang/UnsupportedOperationException"] (m_ty M (nI u0) (nI n1) p2 p3 (nI n4) p5 p6)) 3 18) 121 [(8, .ref (z 0 u0)), (0, .ref (z 6 0)), (1, .int (nI u0)), (2, .int (nI n1)), (3, .int (jv_bI p2)), (4, .int (jv_bI p3)), (5, .int (nI n4)), (6, .int (jv_bI p5)), (7, .int p6)] []
                  refine jv_aload (q := 123) G 0 dX7_type_121 rfl rfl ?_
                  refine jv_getI (q := 126) G dX7_type_123 fl_X7_85 rfl hE8.1.1 hE8.2.2.1 rfl ?_
                  refine jv_iret G hr dX7_type_126 (Nat.le_of_ble_eq_true rfl) (Nat.le_of_ble_eq_true rfl) ?_
                  have en : mt_n (m_tyN (nI n1) p2 (p2 || p3) (nI n4) p5 p6) = n1 := nI_clamp (by omega)
                  obtain ⟨hRn, sfn⟩ := hR.ed (T' := T) (N' := N) hu0 hsu0 hG9 (fun _ _ _ => rfl) (fun _ _ _ _ => rfl) hR.2.2.2.2.2.2.1 oeu0 hE8 (hI8.trans ((hR.1.2.2.1 u0 q8u0).2.2.1.trans (by rw [hsu0]))) (fun q => by cases q) (ty_ok eou0.1 hEu0.n16 (by rw [en]; exact hn1) (by rw [en]; exact hk35) eou0.2.1 ty_new)
                  refine pC_o (o' := (0, nI ((ma_t M u0).length + 1), m_put M u0 (false, (ma_t M u0) ++ [m_tyN (nI n1) p2 (p2 || p3) (nI n4) p5 p6]))) ((op_0 zu0 hsu0).trans ((if_pos (by rw [tyG_eq, hk35]; first | (simp [c4, c5, c6, c31, c32, c38]; done) | simp_all)).trans (if_neg (by omega)))) ⟨rfl, ?_, ⟨_, _, hRn⟩, sfn⟩
                  rw [List.length_append, List.length_singleton]
                · refine jv_throwS (text := "the edition is full") G Z ht th_88 (by decide) (by decide) dX7_type_96 dX7_type_99 dX7_type_100 dX7_type_102 dX7_type_105 (Nat.le_of_ble_eq_true rfl) (by decide) (by decide) ?_
                  exact pX_o (o' := (4, 0, M)) ((op_0 zu0 hsu0).trans ((if_pos (by rw [tyG_eq, hk35]; simp [c4, c5, c6, c31, c32, c38])).trans (if_pos (by omega)))) ⟨(show ¬ (4 : Nat) = 0 by decide), rfl, ⟨_, _, hR⟩, .rf⟩
              · cases c36
            · refine jv_topR (y := (some (T (10 * u0 + k33)))) (by rw [hk35]; rfl) ?_
              obtain ⟨t34, ht34, nt34⟩ := m_at_get hk35
              have lt34 := jv_ltGet ht34
              have k10t34 : k33 < 10 := by have := hEu0.2.2.2.1; omega
              have Ot34 := (hEu0.2.2.2.2.1 k33 t34 ht34).2
              have Vt34 := (hEu0.2.2.2.2.1 k33 t34 ht34).1
              have Yt34 := hEu0.2.1 k33 k10t34
              have bt34n := Ot34.1; have bt34k := Ot34.2.1
              refine jv_ifnull (q := 76) (tgt := 86) (x := (some (T (10 * u0 + k33)))) G dX7_type_73 (by decide) rfl (fun c42 => ?_) (fun a43 c42 => ?_)
              · cases c42
              · refine jv_throwS (text := "there is a type of that name") G Z ht th_70 (by decide) (by decide) dX7_type_76 dX7_type_79 dX7_type_80 dX7_type_82 dX7_type_85 (Nat.le_of_ble_eq_true rfl) (by decide) (by decide) ?_
                exact pX_o (o' := (3, 0, M)) ((op_0 zu0 hsu0).trans (if_neg (by rw [hk35]; simp))) ⟨(show ¬ (3 : Nat) = 0 by decide), rfl, ⟨_, _, hR⟩, .rf⟩
          · refine jv_iload (q := 53) G 8 dX7_type_51 rfl rfl ?_
            refine jv_iconst (q := 54) (v := (-1)) G dX7_type_53 (by decide) rfl ?_
            refine jv_icmp_eq (q := 57) (tgt := 67) G dX7_type_54 (by decide) rfl (fun c44 => ?_) (fun c44 => ?_)
            · exact absurd c44 c6
            · refine jv_throwS (text := "an interface has no super") G Z ht th_70 (by decide) (by decide) dX7_type_57 dX7_type_60 dX7_type_61 dX7_type_63 dX7_type_66 (Nat.le_of_ble_eq_true rfl) (by decide) (by decide) ?_
              exact pX_o (o' := (3, 0, M)) ((op_0 zu0 hsu0).trans (if_neg (by rw [tyG_eq]; simp [c4, c5, c6, c31, c32, c44]))) ⟨(show ¬ (3 : Nat) = 0 by decide), rfl, ⟨_, _, hR⟩, .rf⟩
        · refine jv_throwS (text := "no such name or package") G Z ht th_70 (by decide) (by decide) dX7_type_37 dX7_type_40 dX7_type_41 dX7_type_43 dX7_type_46 (Nat.le_of_ble_eq_true rfl) (by decide) (by decide) ?_
          exact pX_o (o' := (3, 0, M)) ((op_0 zu0 hsu0).trans (if_neg (by rw [tyG_eq]; simp [c4, c5, c6, c31]))) ⟨(show ¬ (3 : Nat) = 0 by decide), rfl, ⟨_, _, hR⟩, .rf⟩
