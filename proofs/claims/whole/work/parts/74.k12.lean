section TN
variable {z : Nat → Nat → Nat} {N : Nat → Nat → Nat} {h : jv_H} {a : Nat}
theorem ne_8 (tl : cl_t z N h a) : z 8 a ≠ a := fun e => by have h1 := tl.2.2.1; rw [e, tl.1] at h1; cases h1
theorem ne_9 (tl : cl_t z N h a) : z 9 a ≠ a := fun e => by have h1 := tl.2.2.2.2.1; rw [e, tl.1] at h1; cases h1
theorem ne_10 (tl : cl_t z N h a) : z 10 a ≠ a := fun e => by have h1 := tl.2.2.2.2.2.2.1; rw [e, tl.1] at h1; cases h1
theorem ne_N (tl : cl_t z N h a) {j : Nat} (hj : j < 6) : N a j ≠ a := fun e => by have h1 := (tl.2.2.2.2.2.2.2 j hj).2; rw [e, tl.1] at h1; cases h1
theorem ne_N8 (tl : cl_t z N h a) {j : Nat} (hj : j < 6) : N a j ≠ z 8 a := fun e => by have h1 := (tl.2.2.2.2.2.2.2 j hj).2; rw [e, tl.2.2.1] at h1; cases h1
theorem ne_N9 (tl : cl_t z N h a) {j : Nat} (hj : j < 6) : N a j ≠ z 9 a := fun e => by have h1 := (tl.2.2.2.2.2.2.2 j hj).2; rw [e, tl.2.2.2.2.1] at h1; cases h1
theorem ne_89 (tl : cl_t z N h a) : z 8 a ≠ z 9 a := fun e => by have h1 := tl.2.2.1; rw [e, tl.2.2.2.2.1] at h1; cases h1
theorem ne_810 (tl : cl_t z N h a) : z 8 a ≠ z 10 a := fun e => by have h1 := tl.2.2.1; rw [e, tl.2.2.2.2.2.2.1] at h1; cases h1
theorem ne_N10 (tl : cl_t z N h a) {j : Nat} (hj : j < 6) : N a j ≠ z 10 a := fun e => by have h1 := (tl.2.2.2.2.2.2.2 j hj).2; rw [e, tl.2.2.2.2.2.2.1] at h1; cases h1
end TN
theorem cv_T.of {z : Nat → Nat → Nat} {N N' : Nat → Nat → Nat} {h h' : jv_H} {a : Nat} {t : mT} {fs : List Nat} {ms : List mM} (r : cv_T z N h a t) (hI : ∀ k, k < 6 → jv_I h' a k = jv_I h a k) (h7 : jv_I h' a 7 = nI fs.length) (h9 : jv_I h' a 9 = nI ms.length) (h10 : jv_L h' a 10 = lN (m_ks false ms)) (h11 : jv_L h' a 11 = lN (m_ks true ms)) (hf : ∀ (j : Nat) v, fs[j]? = some v → jv_I h' (z 8 a) j = nI v) (hm : ∀ (j : Nat) m, ms[j]? = some m → cv_M h' (N' a j) m) : cv_T z N' h' a (m_tM (m_tF t fs) ms) := ⟨(hI 0 (by decide)).trans r.1, (hI 1 (by decide)).trans r.2.1, (hI 2 (by decide)).trans r.2.2.1, (hI 3 (by decide)).trans r.2.2.2.1, (hI 4 (by decide)).trans r.2.2.2.2.1, (hI 5 (by decide)).trans r.2.2.2.2.2.1, h7, h9, h10, h11, hf, hm⟩
theorem tF_self {t : mT} {fs : List Nat} : m_tM (m_tF t fs) (mt_m t) = m_tF t fs := rfl
theorem tM_self {t : mT} {ms : List mM} : m_tM (m_tF t (mt_f t)) ms = m_tM t ms := rfl
set_option maxHeartbeats 4000000 in
set_option maxRecDepth 100000 in
theorem k_addInterface {lA : Launch} (hlt : lA.stackTraces = false) {D : jv_D} {base : Nat} {z : Nat → Nat → Nat} {N : Nat → Nat → Nat} {h : jv_H} {a : Nat} {t : mT} (tl : cl_t z N h a) (hv : cv_T z N h a t) (ho : mt_ok t) {v : Int32} (hl : (mt_f t).length < 3) (hvv : v = nI v.toNatClampNeg) : jv_Met lA D base yX5_addInterface (.code yX5_addInterface cX5_addInterface 2 none) 1 0 0 [.ref a, .int v] h (fun y h' => y = none ∧ cF (fun c => c = a ∨ c = z 8 a) h h' ∧ cv_T z N h' a (m_tF t (mt_f t ++ [v.toNatClampNeg]))) jv_no := by
  refine jv_ofV (lo := [(0, .ref a), (1, .int v)]) hlt (by decide) (Nat.le_of_ble_eq_true rfl) rfl (fun E hEl hEd hEz Z G hr ht hnm => ?_)
  subst hEl; subst hEd; subst hEz
  have hne := ne_8 tl
  refine jv_aload_n (q := 1) G 0 dX5_addInterface_0 rfl rfl rfl ?_
  refine jv_getQ (q := 4) G dX5_addInterface_1 fl_X5_9 rfl tl.1 tl.2.1 rfl ?_
  refine jv_aload_n (q := 5) G 0 dX5_addInterface_4 rfl rfl rfl ?_
  refine jv_getI (q := 8) G dX5_addInterface_5 fl_X5_45 rfl tl.1 (ct_7 hv) rfl ?_
  refine jv_iload_n (q := 9) G 1 dX5_addInterface_8 rfl rfl rfl ?_
  refine jv_iast (q := 10) G dX5_addInterface_9 tl.2.2.1 rfl (by omega) (by decide) rfl ?_
  refine jv_aload_n (q := 11) G 0 dX5_addInterface_10 rfl rfl rfl ?_
  refine jv_dup (q := 12) G dX5_addInterface_11 rfl rfl ?_
  refine jv_getI (q := 15) G dX5_addInterface_12 fl_X5_45 rfl tl.1 ((jv_I_wI _ _ _ _ _ _).trans ((if_neg (fun e => hne e.1.symm)).trans (ct_7 hv))) rfl ?_
  refine jv_iconst (q := 16) (v := nI 1) G dX5_addInterface_15 (by decide) rfl ?_
  refine jv_iaddN (q := 17) G dX5_addInterface_16 rfl ?_
  refine jv_putI (q := 20) G dX5_addInterface_17 fl_X5_45 rfl tl.1 rfl ?_
  refine jv_vret G hr dX5_addInterface_20 (Nat.le_of_ble_eq_true rfl) (Nat.le_of_ble_eq_true rfl) ?_
  have hF : cF (fun c => c = a ∨ c = z 8 a) h (jv_wI (jv_wI h (z 8 a) ((mt_f t).length) v) a 7 (nI (((mt_f t).length) + 1))) := (((cF.rf (S := (fun c => c = a ∨ c = z 8 a))).wI (Or.inr rfl) ((mt_f t).length) v).wI (Or.inl rfl) 7 (nI (((mt_f t).length) + 1)))
  refine ⟨rfl, hF, ?_⟩
  refine cv_T.of (fs := mt_f t ++ [v.toNatClampNeg]) (ms := mt_m t) hv (fun k hk => ?_) ?_ ?_ (show jv_L h a 10 = _ from ct_10 hv) (show jv_L h a 11 = _ from ct_11 hv) (fun j y e => ?_) (fun j m e => ?_)
  · rw [oI_o, if_neg (by omega), jv_I_wI, if_neg (fun e => hne e.1.symm)]
  · rw [oI_o, if_pos rfl, List.length_append, List.length_singleton]
  · rw [oI_o, if_neg (by decide), jv_I_wI, if_neg (fun e => hne e.1.symm)]; exact ct_9 hv
  · rw [jv_I_wI, if_neg (fun e => hne e.1), oI_o]
    by_cases hj : j = (mt_f t).length
    · subst hj
      rw [List.getElem?_append_right (Nat.le_refl _), Nat.sub_self] at e
      cases e
      rw [if_pos rfl]; exact hvv
    · have h1 := jv_ltGet e
      rw [List.length_append, List.length_singleton] at h1
      rw [List.getElem?_append_left (by omega)] at e
      rw [if_neg hj]; exact ct_f hv e
  · have h1 := jv_ltGet e
    have hj6 : j < 6 := by have := ho.2.2.2.2.2.1; omega
    refine hF.M (fun z => ?_) (ct_m hv e)
    rcases z with z | z
    · exact ne_N tl hj6 z
    · exact ne_N8 tl hj6 z
set_option maxHeartbeats 4000000 in
set_option maxRecDepth 100000 in
theorem k_turnKey {lA : Launch} (hlt : lA.stackTraces = false) {D : jv_D} {base : Nat} {h : jv_H} {a K f0 g0 : Nat} {w : Bool} (h5 : jv_sh h a = some (.inl 5)) (h10 : jv_L h a 10 = lN f0) (h11 : jv_L h a 11 = lN g0) (hK : K < 64) : jv_Met lA D base yX5_turnKey (.code yX5_turnKey cX5_turnKey 3 none) 1 0 0 [.ref a, .int (jv_bI w), .int (nI K)] h (fun y h' => y = none ∧ cF (fun c => c = a) h h' ∧ (∀ k, jv_I h' a k = jv_I h a k) ∧ jv_L h' a 10 = lN (f0 ^^^ (if w = false then 2 ^ K else 0)) ∧ jv_L h' a 11 = lN (g0 ^^^ (if w = true then 2 ^ K else 0))) jv_no := by
  refine jv_ofV (lo := [(0, .ref a), (1, .int (jv_bI w)), (2, .int (nI K))]) hlt (by decide) (Nat.le_of_ble_eq_true rfl) rfl (fun E hEl hEd hEz Z G hr ht hnm => ?_)
  subst hEl; subst hEd; subst hEz
  refine jv_iload_n (q := 1) G 1 dX5_turnKey_0 rfl rfl rfl ?_
  refine jv_if_eqB (q := 4) (tgt := 19) G dX5_turnKey_1 (by decide) rfl (fun c1 => ?_) (fun c1 => ?_)
  · subst c1
    refine jv_aload_n (q := 20) G 0 dX5_turnKey_19 rfl rfl rfl ?_
    refine jv_dup (q := 21) G dX5_turnKey_20 rfl rfl ?_
    refine jv_getL (q := 24) G dX5_turnKey_21 fl_X5_51 rfl h5 h10 rfl ?_
    refine jv_lconst (q := 25) (v := 1) G dX5_turnKey_24 (by decide) rfl ?_
    refine jv_iload_n (q := 26) G 2 dX5_turnKey_25 rfl rfl rfl ?_
    refine jv_lshl (q := 27) G dX5_turnKey_26 rfl rfl ?_
    refine jv_lxor (q := 28) G dX5_turnKey_27 rfl ?_
    refine jv_putL (q := 31) G dX5_turnKey_28 fl_X5_51 rfl h5 rfl ?_
    refine jv_vret G hr dX5_turnKey_31 (Nat.le_of_ble_eq_true rfl) (Nat.le_of_ble_eq_true rfl) ?_
    refine ⟨rfl, show cF (fun c => c = a) h (jv_wL h a 10 ((lN f0) ^^^ ((1 : Int64) <<< ((nI K).toInt64 &&& 63)))) from ((cF.rf (S := (fun c => c = a))).wL rfl 10 ((lN f0) ^^^ ((1 : Int64) <<< ((nI K).toInt64 &&& 63)))), fun k => rfl, ?_, ?_⟩
    · rw [oL_o, if_pos rfl, lN_shl K hK, fb_xorL]; simp
    · rw [oL_o, if_neg (by decide), h11]; simp
  · subst c1
    refine jv_aload_n (q := 5) G 0 dX5_turnKey_4 rfl rfl rfl ?_
    refine jv_dup (q := 6) G dX5_turnKey_5 rfl rfl ?_
    refine jv_getL (q := 9) G dX5_turnKey_6 fl_X5_55 rfl h5 h11 rfl ?_
    refine jv_lconst (q := 10) (v := 1) G dX5_turnKey_9 (by decide) rfl ?_
    refine jv_iload_n (q := 11) G 2 dX5_turnKey_10 rfl rfl rfl ?_
    refine jv_lshl (q := 12) G dX5_turnKey_11 rfl rfl ?_
    refine jv_lxor (q := 13) G dX5_turnKey_12 rfl ?_
    refine jv_putL (q := 16) G dX5_turnKey_13 fl_X5_55 rfl h5 rfl ?_
    refine jv_goto (q := 31) G dX5_turnKey_16 (by decide) ?_
    refine jv_vret G hr dX5_turnKey_31 (Nat.le_of_ble_eq_true rfl) (Nat.le_of_ble_eq_true rfl) ?_
    refine ⟨rfl, show cF (fun c => c = a) h (jv_wL h a 11 ((lN g0) ^^^ ((1 : Int64) <<< ((nI K).toInt64 &&& 63)))) from ((cF.rf (S := (fun c => c = a))).wL rfl 11 ((lN g0) ^^^ ((1 : Int64) <<< ((nI K).toInt64 &&& 63)))), fun k => rfl, ?_, ?_⟩
    · rw [oL_o, if_neg (by decide), h10]; simp
    · rw [oL_o, if_pos rfl, lN_shl K hK, fb_xorL]; simp
theorem um_snoc {U : List Nat} {v : Nat} : m_um (U ++ [v]) = m_um U ||| 2 ^ v := by
  induction U with
  | nil => show (2 ^ v ||| 0) = (0 ||| 2 ^ v); rw [Nat.or_zero, Nat.zero_or]
  | cons u U ih => show (2 ^ u ||| m_um (U ++ [v])) = _; rw [ih, m_um, Nat.or_assoc]
def m_au (U : List Nat) (v : Nat) : List Nat := if U.length < 10 then U ++ [v] else U
set_option maxHeartbeats 4000000 in
set_option maxRecDepth 100000 in
theorem k_addUpper {lA : Launch} (hlt : lA.stackTraces = false) {D : jv_D} {base : Nat} {z : Nat → Nat → Nat} {h : jv_H} {a v : Nat} {U : List Nat} (h5 : jv_sh h a = some (.inl 5)) (h12 : jv_P h a 12 = some (z 10 a)) (hs12 : jv_sh h (z 10 a) = some (.inr (.int, 10))) (hU : cv_U z h a U) (hl : U.length ≤ 10) (hu : m_um U < 2 ^ 16) (hv : v < 16) : jv_Met lA D base yX5_addUpper (.code yX5_addUpper cX5_addUpper 2 none) 1 0 0 [.ref a, .int (nI v)] h (fun y h' => y = none ∧ cF (fun c => c = a ∨ c = z 10 a) h h' ∧ cv_U z h' a (m_au U v) ∧ (∀ k, k ≠ 13 → k ≠ 14 → jv_I h' a k = jv_I h a k) ∧ (∀ k, jv_L h' a k = jv_L h a k) ∧ ∀ k, jv_L h' (z 10 a) k = jv_L h (z 10 a) k) jv_no := by
  refine jv_ofV (lo := [(0, .ref a), (1, .int (nI v))]) hlt (by decide) (Nat.le_of_ble_eq_true rfl) rfl (fun E hEl hEd hEz Z G hr ht hnm => ?_)
  subst hEl; subst hEd; subst hEz
  have hne : z 10 a ≠ a := fun e => by rw [e, h5] at hs12; cases hs12
  refine jv_aload_n (q := 1) G 0 dX5_addUpper_0 rfl rfl rfl ?_
  refine jv_getI (q := 4) G dX5_addUpper_1 fl_X5_86 rfl h5 hU.1 rfl ?_
  refine jv_bipush (q := 6) (v := nI 10) G dX5_addUpper_4 (by decide) rfl ?_
  refine jv_icmp_geN (q := 9) (tgt := 41) G dX5_addUpper_6 (by decide) rfl (by omega) (by omega) (fun c1 => ?_) (fun c1 => ?_)
  · refine jv_vret G hr dX5_addUpper_41 (Nat.le_of_ble_eq_true rfl) (Nat.le_of_ble_eq_true rfl) ?_
    refine ⟨rfl, cF.rf, ?_, fun k h1 h2 => rfl, fun k => rfl, fun k => rfl⟩
    unfold m_au; rw [if_neg (by omega)]; exact hU
  · refine jv_aload_n (q := 10) G 0 dX5_addUpper_9 rfl rfl rfl ?_
    refine jv_getQ (q := 13) G dX5_addUpper_10 fl_X5_21 rfl h5 h12 rfl ?_
    refine jv_aload_n (q := 14) G 0 dX5_addUpper_13 rfl rfl rfl ?_
    refine jv_getI (q := 17) G dX5_addUpper_14 fl_X5_86 rfl h5 hU.1 rfl ?_
    refine jv_iload_n (q := 18) G 1 dX5_addUpper_17 rfl rfl rfl ?_
    refine jv_iast (q := 19) G dX5_addUpper_18 hs12 rfl (by omega) (by decide) rfl ?_
    refine jv_aload_n (q := 20) G 0 dX5_addUpper_19 rfl rfl rfl ?_
    refine jv_dup (q := 21) G dX5_addUpper_20 rfl rfl ?_
    refine jv_getI (q := 24) G dX5_addUpper_21 fl_X5_86 rfl h5 ((jv_I_wI _ _ _ _ _ _).trans ((if_neg (fun e => hne e.1.symm)).trans hU.1)) rfl ?_
    refine jv_iconst (q := 25) (v := nI 1) G dX5_addUpper_24 (by decide) rfl ?_
    refine jv_iaddN (q := 26) G dX5_addUpper_25 rfl ?_
    refine jv_putI (q := 29) G dX5_addUpper_26 fl_X5_86 rfl h5 rfl ?_
    refine jv_aload_n (q := 30) G 0 dX5_addUpper_29 rfl rfl rfl ?_
    refine jv_dup (q := 31) G dX5_addUpper_30 rfl rfl ?_
    refine jv_getI (q := 34) G dX5_addUpper_31 fl_X5_89 rfl h5 ((oI_o _ _ _ _ _).trans ((if_neg (by decide)).trans ((jv_I_wI _ _ _ _ _ _).trans ((if_neg (fun e => hne e.1.symm)).trans hU.2.1)))) rfl ?_
    refine jv_iconst (q := 35) (v := nI 1) G dX5_addUpper_34 (by decide) rfl ?_
    refine jv_iload_n (q := 36) G 1 dX5_addUpper_35 rfl rfl rfl ?_
    refine jv_ishlN (q := 37) G dX5_addUpper_36 (by omega) rfl ?_
    refine jv_iorN (q := 38) G dX5_addUpper_37 rfl ?_
    refine jv_putI (q := 41) G dX5_addUpper_38 fl_X5_89 rfl h5 rfl ?_
    refine jv_vret G hr dX5_addUpper_41 (Nat.le_of_ble_eq_true rfl) (Nat.le_of_ble_eq_true rfl) ?_
    refine ⟨rfl, show cF (fun c => c = a ∨ c = z 10 a) h (jv_wI (jv_wI (jv_wI h (z 10 a) U.length (nI v)) a 13 (nI (U.length + 1))) a 14 (nI ((m_um U) ||| (2 ^ v)))) from ((((cF.rf (S := (fun c => c = a ∨ c = z 10 a))).wI (Or.inr rfl) U.length (nI v)).wI (Or.inl rfl) 13 (nI (U.length + 1))).wI (Or.inl rfl) 14 (nI ((m_um U) ||| (2 ^ v)))), ?_, fun k h1 h2 => ?_, fun k => rfl, fun k => rfl⟩
    · unfold m_au
      rw [if_pos c1]
      refine ⟨?_, ?_, fun j y e => ?_⟩
      · rw [oI_o, if_neg (by decide), oI_o, if_pos rfl, List.length_append, List.length_singleton]
      · rw [oI_o, if_pos rfl, um_snoc]
      · rw [jv_I_wI, if_neg (fun e => hne e.1), jv_I_wI, if_neg (fun e => hne e.1), oI_o]
        by_cases hj : j = U.length
        · subst hj
          rw [List.getElem?_append_right (Nat.le_refl _), Nat.sub_self] at e
          cases e
          rw [if_pos rfl]
        · have h1 := jv_ltGet e
          rw [List.length_append, List.length_singleton] at h1
          rw [List.getElem?_append_left (by omega)] at e
          rw [if_neg hj]; exact hU.2.2 j y e
    · rw [oI_o, if_neg h2, oI_o, if_neg h1, jv_I_wI, if_neg (fun e => hne e.1.symm)]
