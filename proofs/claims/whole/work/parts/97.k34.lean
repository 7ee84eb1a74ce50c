set_option maxHeartbeats 4000000 in
set_option maxRecDepth 100000 in
theorem k_cell0n {lA : Launch} (hlt : lA.stackTraces = false) {D : jv_D} {base : Nat} {z : Nat → Nat → Nat} {h : jv_H} {s : mS} {L : List mR} (hdS : dS z h s L) (hL : L.length ≤ 230) {i nr t : Nat} {go : Option Nat} (hi : L[i]? = some (nr, t, (none : Option Nat), go)) : jv_Met lA D base yX1_cell (.code yX1_cell cX1_cell 3 (some .int)) 1 0 0 [.ref (z 6 3), .int (nI i), .int (nI 0)] h (jv_rI (m_col (nr, t, (none : Option Nat), go) 0) h) jv_no := by
  refine jv_ofV (lo := [(0, .ref (z 6 3)), (1, .int (nI i)), (2, .int (nI 0))]) hlt (by decide) (Nat.le_of_ble_eq_true rfl) rfl (fun E hEl hEd hEz Z G hr ht hnm => ?_)
  subst hEl; subst hEd; subst hEz
  have lk := hdS.1; have li := jv_ltGet hi; obtain ⟨a1, a2, a3, a4, a5⟩ := hdS.2.2.1 i _ hi
  have i230 : i < 230 := by omega
  have a3 : jv_I h (z 7 5) i = -1 := a3
  have a5 : jv_I h (z 7 7) i = jv_bI false := a5
  refine jv_iload_n (q := 1) G 2 dX1_cell_0 rfl rfl rfl ?_
  refine jv_tsIn (tgt := 36) (off := 35) G dX1_cell_1 (by decide) (by decide) rfl (by decide) ?_
  refine jv_aload_n (q := 37) G 0 dX1_cell_36 rfl rfl rfl ?_
  refine jv_getQ (q := 40) G dX1_cell_37 fl_X1_18 rfl lk.1 (ck_p lk 3 (by decide) (by decide)) rfl ?_
  refine jv_iload_n (q := 41) G 1 dX1_cell_40 rfl rfl rfl ?_
  refine jv_iald (q := 42) G dX1_cell_41 (ck_s3 lk) rfl (by omega) (by decide) a1 rfl ?_
  refine jv_iret G hr dX1_cell_42 (Nat.le_of_ble_eq_true rfl) (Nat.le_of_ble_eq_true rfl) ?_
  exact ⟨rfl, rfl⟩
set_option maxHeartbeats 4000000 in
set_option maxRecDepth 100000 in
theorem k_cell0s {lA : Launch} (hlt : lA.stackTraces = false) {D : jv_D} {base : Nat} {z : Nat → Nat → Nat} {h : jv_H} {s : mS} {L : List mR} (hdS : dS z h s L) (hL : L.length ≤ 230) {i nr t : Nat} {go : Option Nat} {K : Nat} (hK : K < 128) (hi : L[i]? = some (nr, t, some K, go)) : jv_Met lA D base yX1_cell (.code yX1_cell cX1_cell 3 (some .int)) 1 0 0 [.ref (z 6 3), .int (nI i), .int (nI 0)] h (jv_rI (m_col (nr, t, some K, go) 0) h) jv_no := by
  refine jv_ofV (lo := [(0, .ref (z 6 3)), (1, .int (nI i)), (2, .int (nI 0))]) hlt (by decide) (Nat.le_of_ble_eq_true rfl) rfl (fun E hEl hEd hEz Z G hr ht hnm => ?_)
  subst hEl; subst hEd; subst hEz
  have lk := hdS.1; have li := jv_ltGet hi; obtain ⟨a1, a2, a3, a4, a5⟩ := hdS.2.2.1 i _ hi
  have i230 : i < 230 := by omega
  have a3 : jv_I h (z 7 5) i = nI (K % 64) := a3
  have a5 : jv_I h (z 7 7) i = jv_bI (decide (64 ≤ K)) := a5
  refine jv_iload_n (q := 1) G 2 dX1_cell_0 rfl rfl rfl ?_
  refine jv_tsIn (tgt := 36) (off := 35) G dX1_cell_1 (by decide) (by decide) rfl (by decide) ?_
  refine jv_aload_n (q := 37) G 0 dX1_cell_36 rfl rfl rfl ?_
  refine jv_getQ (q := 40) G dX1_cell_37 fl_X1_18 rfl lk.1 (ck_p lk 3 (by decide) (by decide)) rfl ?_
  refine jv_iload_n (q := 41) G 1 dX1_cell_40 rfl rfl rfl ?_
  refine jv_iald (q := 42) G dX1_cell_41 (ck_s3 lk) rfl (by omega) (by decide) a1 rfl ?_
  refine jv_iret G hr dX1_cell_42 (Nat.le_of_ble_eq_true rfl) (Nat.le_of_ble_eq_true rfl) ?_
  exact ⟨rfl, rfl⟩
set_option maxHeartbeats 4000000 in
set_option maxRecDepth 100000 in
theorem k_cell1n {lA : Launch} (hlt : lA.stackTraces = false) {D : jv_D} {base : Nat} {z : Nat → Nat → Nat} {h : jv_H} {s : mS} {L : List mR} (hdS : dS z h s L) (hL : L.length ≤ 230) {i nr t : Nat} {go : Option Nat} (hi : L[i]? = some (nr, t, (none : Option Nat), go)) : jv_Met lA D base yX1_cell (.code yX1_cell cX1_cell 3 (some .int)) 1 0 0 [.ref (z 6 3), .int (nI i), .int (nI 1)] h (jv_rI (m_col (nr, t, (none : Option Nat), go) 1) h) jv_no := by
  refine jv_ofV (lo := [(0, .ref (z 6 3)), (1, .int (nI i)), (2, .int (nI 1))]) hlt (by decide) (Nat.le_of_ble_eq_true rfl) rfl (fun E hEl hEd hEz Z G hr ht hnm => ?_)
  subst hEl; subst hEd; subst hEz
  have lk := hdS.1; have li := jv_ltGet hi; obtain ⟨a1, a2, a3, a4, a5⟩ := hdS.2.2.1 i _ hi
  have i230 : i < 230 := by omega
  have a3 : jv_I h (z 7 5) i = -1 := a3
  have a5 : jv_I h (z 7 7) i = jv_bI false := a5
  refine jv_iload_n (q := 1) G 2 dX1_cell_0 rfl rfl rfl ?_
  refine jv_tsIn (tgt := 43) (off := 42) G dX1_cell_1 (by decide) (by decide) rfl (by decide) ?_
  refine jv_aload_n (q := 44) G 0 dX1_cell_43 rfl rfl rfl ?_
  refine jv_getQ (q := 47) G dX1_cell_44 fl_X1_22 rfl lk.1 (ck_p lk 4 (by decide) (by decide)) rfl ?_
  refine jv_iload_n (q := 48) G 1 dX1_cell_47 rfl rfl rfl ?_
  refine jv_iald (q := 49) G dX1_cell_48 (ck_s4 lk) rfl (by omega) (by decide) a2 rfl ?_
  refine jv_iret G hr dX1_cell_49 (Nat.le_of_ble_eq_true rfl) (Nat.le_of_ble_eq_true rfl) ?_
  exact ⟨rfl, rfl⟩
set_option maxHeartbeats 4000000 in
set_option maxRecDepth 100000 in
theorem k_cell1s {lA : Launch} (hlt : lA.stackTraces = false) {D : jv_D} {base : Nat} {z : Nat → Nat → Nat} {h : jv_H} {s : mS} {L : List mR} (hdS : dS z h s L) (hL : L.length ≤ 230) {i nr t : Nat} {go : Option Nat} {K : Nat} (hK : K < 128) (hi : L[i]? = some (nr, t, some K, go)) : jv_Met lA D base yX1_cell (.code yX1_cell cX1_cell 3 (some .int)) 1 0 0 [.ref (z 6 3), .int (nI i), .int (nI 1)] h (jv_rI (m_col (nr, t, some K, go) 1) h) jv_no := by
  refine jv_ofV (lo := [(0, .ref (z 6 3)), (1, .int (nI i)), (2, .int (nI 1))]) hlt (by decide) (Nat.le_of_ble_eq_true rfl) rfl (fun E hEl hEd hEz Z G hr ht hnm => ?_)
  subst hEl; subst hEd; subst hEz
  have lk := hdS.1; have li := jv_ltGet hi; obtain ⟨a1, a2, a3, a4, a5⟩ := hdS.2.2.1 i _ hi
  have i230 : i < 230 := by omega
  have a3 : jv_I h (z 7 5) i = nI (K % 64) := a3
  have a5 : jv_I h (z 7 7) i = jv_bI (decide (64 ≤ K)) := a5
  refine jv_iload_n (q := 1) G 2 dX1_cell_0 rfl rfl rfl ?_
  refine jv_tsIn (tgt := 43) (off := 42) G dX1_cell_1 (by decide) (by decide) rfl (by decide) ?_
  refine jv_aload_n (q := 44) G 0 dX1_cell_43 rfl rfl rfl ?_
  refine jv_getQ (q := 47) G dX1_cell_44 fl_X1_22 rfl lk.1 (ck_p lk 4 (by decide) (by decide)) rfl ?_
  refine jv_iload_n (q := 48) G 1 dX1_cell_47 rfl rfl rfl ?_
  refine jv_iald (q := 49) G dX1_cell_48 (ck_s4 lk) rfl (by omega) (by decide) a2 rfl ?_
  refine jv_iret G hr dX1_cell_49 (Nat.le_of_ble_eq_true rfl) (Nat.le_of_ble_eq_true rfl) ?_
  exact ⟨rfl, rfl⟩
set_option maxHeartbeats 4000000 in
set_option maxRecDepth 100000 in
theorem k_cell2n {lA : Launch} (hlt : lA.stackTraces = false) {D : jv_D} {base : Nat} {z : Nat → Nat → Nat} {h : jv_H} {s : mS} {L : List mR} (hdS : dS z h s L) (hL : L.length ≤ 230) {i nr t : Nat} {go : Option Nat} (hi : L[i]? = some (nr, t, (none : Option Nat), go)) : jv_Met lA D base yX1_cell (.code yX1_cell cX1_cell 3 (some .int)) 1 0 0 [.ref (z 6 3), .int (nI i), .int (nI 2)] h (jv_rI (m_col (nr, t, (none : Option Nat), go) 2) h) jv_no := by
  refine jv_ofV (lo := [(0, .ref (z 6 3)), (1, .int (nI i)), (2, .int (nI 2))]) hlt (by decide) (Nat.le_of_ble_eq_true rfl) rfl (fun E hEl hEd hEz Z G hr ht hnm => ?_)
  subst hEl; subst hEd; subst hEz
  have lk := hdS.1; have li := jv_ltGet hi; obtain ⟨a1, a2, a3, a4, a5⟩ := hdS.2.2.1 i _ hi
  have i230 : i < 230 := by omega
  have a3 : jv_I h (z 7 5) i = -1 := a3
  have a5 : jv_I h (z 7 7) i = jv_bI false := a5
  refine jv_iload_n (q := 1) G 2 dX1_cell_0 rfl rfl rfl ?_
  refine jv_tsIn (tgt := 50) (off := 49) G dX1_cell_1 (by decide) (by decide) rfl (by decide) ?_
  refine jv_aload_n (q := 51) G 0 dX1_cell_50 rfl rfl rfl ?_
  refine jv_getQ (q := 54) G dX1_cell_51 fl_X1_25 rfl lk.1 (ck_p lk 5 (by decide) (by decide)) rfl ?_
  refine jv_iload_n (q := 55) G 1 dX1_cell_54 rfl rfl rfl ?_
  refine jv_iald (q := 56) G dX1_cell_55 (ck_s5 lk) rfl (by omega) (by decide) a3 rfl ?_
  refine jv_iconst (q := 57) (v := (-1)) G dX1_cell_56 (by decide) rfl ?_
  refine jv_icmp_ne (q := 60) (tgt := 64) G dX1_cell_57 (by decide) rfl (fun c1 => ?_) (fun c1 => ?_)
  · exact absurd rfl c1
  · refine jv_iconst (q := 61) (v := (-1)) G dX1_cell_60 (by decide) rfl ?_
    refine jv_goto (q := 72) G dX1_cell_61 (by decide) ?_
    refine jv_iret G hr dX1_cell_72 (Nat.le_of_ble_eq_true rfl) (Nat.le_of_ble_eq_true rfl) ?_
    exact ⟨rfl, rfl⟩
set_option maxHeartbeats 4000000 in
set_option maxRecDepth 100000 in
theorem k_cell2s {lA : Launch} (hlt : lA.stackTraces = false) {D : jv_D} {base : Nat} {z : Nat → Nat → Nat} {h : jv_H} {s : mS} {L : List mR} (hdS : dS z h s L) (hL : L.length ≤ 230) {i nr t : Nat} {go : Option Nat} {K : Nat} (hK : K < 128) (hi : L[i]? = some (nr, t, some K, go)) : jv_Met lA D base yX1_cell (.code yX1_cell cX1_cell 3 (some .int)) 1 0 0 [.ref (z 6 3), .int (nI i), .int (nI 2)] h (jv_rI (m_col (nr, t, some K, go) 2) h) jv_no := by
  refine jv_ofV (lo := [(0, .ref (z 6 3)), (1, .int (nI i)), (2, .int (nI 2))]) hlt (by decide) (Nat.le_of_ble_eq_true rfl) rfl (fun E hEl hEd hEz Z G hr ht hnm => ?_)
  subst hEl; subst hEd; subst hEz
  have lk := hdS.1; have li := jv_ltGet hi; obtain ⟨a1, a2, a3, a4, a5⟩ := hdS.2.2.1 i _ hi
  have i230 : i < 230 := by omega
  have a3 : jv_I h (z 7 5) i = nI (K % 64) := a3
  have a5 : jv_I h (z 7 7) i = jv_bI (decide (64 ≤ K)) := a5
  refine jv_iload_n (q := 1) G 2 dX1_cell_0 rfl rfl rfl ?_
  refine jv_tsIn (tgt := 50) (off := 49) G dX1_cell_1 (by decide) (by decide) rfl (by decide) ?_
  refine jv_aload_n (q := 51) G 0 dX1_cell_50 rfl rfl rfl ?_
  refine jv_getQ (q := 54) G dX1_cell_51 fl_X1_25 rfl lk.1 (ck_p lk 5 (by decide) (by decide)) rfl ?_
  refine jv_iload_n (q := 55) G 1 dX1_cell_54 rfl rfl rfl ?_
  refine jv_iald (q := 56) G dX1_cell_55 (ck_s5 lk) rfl (by omega) (by decide) a3 rfl ?_
  refine jv_iconst (q := 57) (v := (-1)) G dX1_cell_56 (by decide) rfl ?_
  refine jv_icmp_ne (q := 60) (tgt := 64) G dX1_cell_57 (by decide) rfl (fun c1 => ?_) (fun c1 => ?_)
  · refine jv_aload_n (q := 65) G 0 dX1_cell_64 rfl rfl rfl ?_
    refine jv_getQ (q := 68) G dX1_cell_65 fl_X1_25 rfl lk.1 (ck_p lk 5 (by decide) (by decide)) rfl ?_
    refine jv_iload_n (q := 69) G 1 dX1_cell_68 rfl rfl rfl ?_
    refine jv_iald (q := 70) G dX1_cell_69 (ck_s5 lk) rfl (by omega) (by decide) a3 rfl ?_
    refine jv_iconst (q := 71) (v := nI 4) G dX1_cell_70 (by decide) rfl ?_
    refine jv_idivN (q := 72) G dX1_cell_71 (by omega) (by omega) (by omega) rfl ?_
    refine jv_iret G hr dX1_cell_72 (Nat.le_of_ble_eq_true rfl) (Nat.le_of_ble_eq_true rfl) ?_
    exact ⟨rfl, rfl⟩
  · exact absurd c1 (jv_nI_m1 (by omega))
set_option maxHeartbeats 4000000 in
set_option maxRecDepth 100000 in
theorem k_cell3n {lA : Launch} (hlt : lA.stackTraces = false) {D : jv_D} {base : Nat} {z : Nat → Nat → Nat} {h : jv_H} {s : mS} {L : List mR} (hdS : dS z h s L) (hL : L.length ≤ 230) {i nr t : Nat} {go : Option Nat} (hi : L[i]? = some (nr, t, (none : Option Nat), go)) : jv_Met lA D base yX1_cell (.code yX1_cell cX1_cell 3 (some .int)) 1 0 0 [.ref (z 6 3), .int (nI i), .int (nI 3)] h (jv_rI (m_col (nr, t, (none : Option Nat), go) 3) h) jv_no := by
  refine jv_ofV (lo := [(0, .ref (z 6 3)), (1, .int (nI i)), (2, .int (nI 3))]) hlt (by decide) (Nat.le_of_ble_eq_true rfl) rfl (fun E hEl hEd hEz Z G hr ht hnm => ?_)
  subst hEl; subst hEd; subst hEz
  have lk := hdS.1; have li := jv_ltGet hi; obtain ⟨a1, a2, a3, a4, a5⟩ := hdS.2.2.1 i _ hi
  have i230 : i < 230 := by omega
  have a3 : jv_I h (z 7 5) i = -1 := a3
  have a5 : jv_I h (z 7 7) i = jv_bI false := a5
  refine jv_iload_n (q := 1) G 2 dX1_cell_0 rfl rfl rfl ?_
  refine jv_tsIn (tgt := 73) (off := 72) G dX1_cell_1 (by decide) (by decide) rfl (by decide) ?_
  refine jv_aload_n (q := 74) G 0 dX1_cell_73 rfl rfl rfl ?_
  refine jv_getQ (q := 77) G dX1_cell_74 fl_X1_25 rfl lk.1 (ck_p lk 5 (by decide) (by decide)) rfl ?_
  refine jv_iload_n (q := 78) G 1 dX1_cell_77 rfl rfl rfl ?_
  refine jv_iald (q := 79) G dX1_cell_78 (ck_s5 lk) rfl (by omega) (by decide) a3 rfl ?_
  refine jv_iconst (q := 80) (v := (-1)) G dX1_cell_79 (by decide) rfl ?_
  refine jv_icmp_ne (q := 83) (tgt := 87) G dX1_cell_80 (by decide) rfl (fun c1 => ?_) (fun c1 => ?_)
  · exact absurd rfl c1
  · refine jv_iconst (q := 84) (v := (-1)) G dX1_cell_83 (by decide) rfl ?_
    refine jv_goto (q := 95) G dX1_cell_84 (by decide) ?_
    refine jv_iret G hr dX1_cell_95 (Nat.le_of_ble_eq_true rfl) (Nat.le_of_ble_eq_true rfl) ?_
    exact ⟨rfl, rfl⟩
set_option maxHeartbeats 4000000 in
set_option maxRecDepth 100000 in
theorem k_cell3s {lA : Launch} (hlt : lA.stackTraces = false) {D : jv_D} {base : Nat} {z : Nat → Nat → Nat} {h : jv_H} {s : mS} {L : List mR} (hdS : dS z h s L) (hL : L.length ≤ 230) {i nr t : Nat} {go : Option Nat} {K : Nat} (hK : K < 128) (hi : L[i]? = some (nr, t, some K, go)) : jv_Met lA D base yX1_cell (.code yX1_cell cX1_cell 3 (some .int)) 1 0 0 [.ref (z 6 3), .int (nI i), .int (nI 3)] h (jv_rI (m_col (nr, t, some K, go) 3) h) jv_no := by
  refine jv_ofV (lo := [(0, .ref (z 6 3)), (1, .int (nI i)), (2, .int (nI 3))]) hlt (by decide) (Nat.le_of_ble_eq_true rfl) rfl (fun E hEl hEd hEz Z G hr ht hnm => ?_)
  subst hEl; subst hEd; subst hEz
  have lk := hdS.1; have li := jv_ltGet hi; obtain ⟨a1, a2, a3, a4, a5⟩ := hdS.2.2.1 i _ hi
  have i230 : i < 230 := by omega
  have a3 : jv_I h (z 7 5) i = nI (K % 64) := a3
  have a5 : jv_I h (z 7 7) i = jv_bI (decide (64 ≤ K)) := a5
  refine jv_iload_n (q := 1) G 2 dX1_cell_0 rfl rfl rfl ?_
  refine jv_tsIn (tgt := 73) (off := 72) G dX1_cell_1 (by decide) (by decide) rfl (by decide) ?_
  refine jv_aload_n (q := 74) G 0 dX1_cell_73 rfl rfl rfl ?_
  refine jv_getQ (q := 77) G dX1_cell_74 fl_X1_25 rfl lk.1 (ck_p lk 5 (by decide) (by decide)) rfl ?_
  refine jv_iload_n (q := 78) G 1 dX1_cell_77 rfl rfl rfl ?_
  refine jv_iald (q := 79) G dX1_cell_78 (ck_s5 lk) rfl (by omega) (by decide) a3 rfl ?_
  refine jv_iconst (q := 80) (v := (-1)) G dX1_cell_79 (by decide) rfl ?_
  refine jv_icmp_ne (q := 83) (tgt := 87) G dX1_cell_80 (by decide) rfl (fun c1 => ?_) (fun c1 => ?_)
  · refine jv_aload_n (q := 88) G 0 dX1_cell_87 rfl rfl rfl ?_
    refine jv_getQ (q := 91) G dX1_cell_88 fl_X1_25 rfl lk.1 (ck_p lk 5 (by decide) (by decide)) rfl ?_
    refine jv_iload_n (q := 92) G 1 dX1_cell_91 rfl rfl rfl ?_
    refine jv_iald (q := 93) G dX1_cell_92 (ck_s5 lk) rfl (by omega) (by decide) a3 rfl ?_
    refine jv_iconst (q := 94) (v := nI 4) G dX1_cell_93 (by decide) rfl ?_
    refine jv_iremN (q := 95) G dX1_cell_94 (by omega) (by omega) (by omega) rfl ?_
    refine jv_iret G hr dX1_cell_95 (Nat.le_of_ble_eq_true rfl) (Nat.le_of_ble_eq_true rfl) ?_
    refine ⟨?_, rfl⟩
    show some (Value.int (nI (K % 64 % 4))) = some (Value.int (nI (K % 4)))
    congr 3
    omega
  · exact absurd c1 (jv_nI_m1 (by omega))
set_option maxHeartbeats 4000000 in
set_option maxRecDepth 100000 in
theorem k_cell4n {lA : Launch} (hlt : lA.stackTraces = false) {D : jv_D} {base : Nat} {z : Nat → Nat → Nat} {h : jv_H} {s : mS} {L : List mR} (hdS : dS z h s L) (hL : L.length ≤ 230) {i nr t : Nat} {go : Option Nat} (hi : L[i]? = some (nr, t, (none : Option Nat), go)) : jv_Met lA D base yX1_cell (.code yX1_cell cX1_cell 3 (some .int)) 1 0 0 [.ref (z 6 3), .int (nI i), .int (nI 4)] h (jv_rI (m_col (nr, t, (none : Option Nat), go) 4) h) jv_no := by
  refine jv_ofV (lo := [(0, .ref (z 6 3)), (1, .int (nI i)), (2, .int (nI 4))]) hlt (by decide) (Nat.le_of_ble_eq_true rfl) rfl (fun E hEl hEd hEz Z G hr ht hnm => ?_)
  subst hEl; subst hEd; subst hEz
  have lk := hdS.1; have li := jv_ltGet hi; obtain ⟨a1, a2, a3, a4, a5⟩ := hdS.2.2.1 i _ hi
  have i230 : i < 230 := by omega
  have a3 : jv_I h (z 7 5) i = -1 := a3
  have a5 : jv_I h (z 7 7) i = jv_bI false := a5
  refine jv_iload_n (q := 1) G 2 dX1_cell_0 rfl rfl rfl ?_
  refine jv_tsIn (tgt := 96) (off := 95) G dX1_cell_1 (by decide) (by decide) rfl (by decide) ?_
  refine jv_aload_n (q := 97) G 0 dX1_cell_96 rfl rfl rfl ?_
  refine jv_getQ (q := 100) G dX1_cell_97 fl_X1_28 rfl lk.1 (ck_p lk 6 (by decide) (by decide)) rfl ?_
  refine jv_iload_n (q := 101) G 1 dX1_cell_100 rfl rfl rfl ?_
  refine jv_iald (q := 102) G dX1_cell_101 (ck_s6 lk) rfl (by omega) (by decide) a4 rfl ?_
  refine jv_iret G hr dX1_cell_102 (Nat.le_of_ble_eq_true rfl) (Nat.le_of_ble_eq_true rfl) ?_
  exact ⟨rfl, rfl⟩
set_option maxHeartbeats 4000000 in
set_option maxRecDepth 100000 in
theorem k_cell4s {lA : Launch} (hlt : lA.stackTraces = false) {D : jv_D} {base : Nat} {z : Nat → Nat → Nat} {h : jv_H} {s : mS} {L : List mR} (hdS : dS z h s L) (hL : L.length ≤ 230) {i nr t : Nat} {go : Option Nat} {K : Nat} (hK : K < 128) (hi : L[i]? = some (nr, t, some K, go)) : jv_Met lA D base yX1_cell (.code yX1_cell cX1_cell 3 (some .int)) 1 0 0 [.ref (z 6 3), .int (nI i), .int (nI 4)] h (jv_rI (m_col (nr, t, some K, go) 4) h) jv_no := by
  refine jv_ofV (lo := [(0, .ref (z 6 3)), (1, .int (nI i)), (2, .int (nI 4))]) hlt (by decide) (Nat.le_of_ble_eq_true rfl) rfl (fun E hEl hEd hEz Z G hr ht hnm => ?_)
  subst hEl; subst hEd; subst hEz
  have lk := hdS.1; have li := jv_ltGet hi; obtain ⟨a1, a2, a3, a4, a5⟩ := hdS.2.2.1 i _ hi
  have i230 : i < 230 := by omega
  have a3 : jv_I h (z 7 5) i = nI (K % 64) := a3
  have a5 : jv_I h (z 7 7) i = jv_bI (decide (64 ≤ K)) := a5
  refine jv_iload_n (q := 1) G 2 dX1_cell_0 rfl rfl rfl ?_
  refine jv_tsIn (tgt := 96) (off := 95) G dX1_cell_1 (by decide) (by decide) rfl (by decide) ?_
  refine jv_aload_n (q := 97) G 0 dX1_cell_96 rfl rfl rfl ?_
  refine jv_getQ (q := 100) G dX1_cell_97 fl_X1_28 rfl lk.1 (ck_p lk 6 (by decide) (by decide)) rfl ?_
  refine jv_iload_n (q := 101) G 1 dX1_cell_100 rfl rfl rfl ?_
  refine jv_iald (q := 102) G dX1_cell_101 (ck_s6 lk) rfl (by omega) (by decide) a4 rfl ?_
  refine jv_iret G hr dX1_cell_102 (Nat.le_of_ble_eq_true rfl) (Nat.le_of_ble_eq_true rfl) ?_
  exact ⟨rfl, rfl⟩
set_option maxHeartbeats 4000000 in
set_option maxRecDepth 100000 in
theorem k_cell5n {lA : Launch} (hlt : lA.stackTraces = false) {D : jv_D} {base : Nat} {z : Nat → Nat → Nat} {h : jv_H} {s : mS} {L : List mR} (hdS : dS z h s L) (hL : L.length ≤ 230) {i nr t : Nat} {go : Option Nat} (hi : L[i]? = some (nr, t, (none : Option Nat), go)) : jv_Met lA D base yX1_cell (.code yX1_cell cX1_cell 3 (some .int)) 1 0 0 [.ref (z 6 3), .int (nI i), .int (nI 5)] h (jv_rI (m_col (nr, t, (none : Option Nat), go) 5) h) jv_no := by
  refine jv_ofV (lo := [(0, .ref (z 6 3)), (1, .int (nI i)), (2, .int (nI 5))]) hlt (by decide) (Nat.le_of_ble_eq_true rfl) rfl (fun E hEl hEd hEz Z G hr ht hnm => ?_)
  subst hEl; subst hEd; subst hEz
  have lk := hdS.1; have li := jv_ltGet hi; obtain ⟨a1, a2, a3, a4, a5⟩ := hdS.2.2.1 i _ hi
  have i230 : i < 230 := by omega
  have a3 : jv_I h (z 7 5) i = -1 := a3
  have a5 : jv_I h (z 7 7) i = jv_bI false := a5
  refine jv_iload_n (q := 1) G 2 dX1_cell_0 rfl rfl rfl ?_
  refine jv_tsOut (tgt := 103) G dX1_cell_1 (Or.inr (by decide)) (by decide) ?_
  refine jv_aload_n (q := 104) G 0 dX1_cell_103 rfl rfl rfl ?_
  refine jv_getQ (q := 107) G dX1_cell_104 fl_X1_31 rfl lk.1 (ck_p lk 7 (by decide) (by decide)) rfl ?_
  refine jv_iload_n (q := 108) G 1 dX1_cell_107 rfl rfl rfl ?_
  refine jv_zald (q := 109) G dX1_cell_108 (ck_s7 lk) rfl (by omega) (by decide) a5 rfl ?_
  refine jv_if_eqB (q := 112) (tgt := 116) G dX1_cell_109 (by decide) rfl (fun c1 => ?_) (fun c1 => ?_)
  · refine jv_iconst (q := 117) (v := nI 0) G dX1_cell_116 (by decide) rfl ?_
    refine jv_iret G hr dX1_cell_117 (Nat.le_of_ble_eq_true rfl) (Nat.le_of_ble_eq_true rfl) ?_
    exact ⟨rfl, rfl⟩
  · cases c1
set_option maxHeartbeats 4000000 in
set_option maxRecDepth 100000 in
theorem k_cell5s {lA : Launch} (hlt : lA.stackTraces = false) {D : jv_D} {base : Nat} {z : Nat → Nat → Nat} {h : jv_H} {s : mS} {L : List mR} (hdS : dS z h s L) (hL : L.length ≤ 230) {i nr t : Nat} {go : Option Nat} {K : Nat} (hK : K < 128) (hi : L[i]? = some (nr, t, some K, go)) : jv_Met lA D base yX1_cell (.code yX1_cell cX1_cell 3 (some .int)) 1 0 0 [.ref (z 6 3), .int (nI i), .int (nI 5)] h (jv_rI (m_col (nr, t, some K, go) 5) h) jv_no := by
  refine jv_ofV (lo := [(0, .ref (z 6 3)), (1, .int (nI i)), (2, .int (nI 5))]) hlt (by decide) (Nat.le_of_ble_eq_true rfl) rfl (fun E hEl hEd hEz Z G hr ht hnm => ?_)
  subst hEl; subst hEd; subst hEz
  have lk := hdS.1; have li := jv_ltGet hi; obtain ⟨a1, a2, a3, a4, a5⟩ := hdS.2.2.1 i _ hi
  have i230 : i < 230 := by omega
  have a3 : jv_I h (z 7 5) i = nI (K % 64) := a3
  have a5 : jv_I h (z 7 7) i = jv_bI (decide (64 ≤ K)) := a5
  refine jv_iload_n (q := 1) G 2 dX1_cell_0 rfl rfl rfl ?_
  refine jv_tsOut (tgt := 103) G dX1_cell_1 (Or.inr (by decide)) (by decide) ?_
  refine jv_aload_n (q := 104) G 0 dX1_cell_103 rfl rfl rfl ?_
  refine jv_getQ (q := 107) G dX1_cell_104 fl_X1_31 rfl lk.1 (ck_p lk 7 (by decide) (by decide)) rfl ?_
  refine jv_iload_n (q := 108) G 1 dX1_cell_107 rfl rfl rfl ?_
  refine jv_zald (q := 109) G dX1_cell_108 (ck_s7 lk) rfl (by omega) (by decide) a5 rfl ?_
  refine jv_if_eqB (q := 112) (tgt := 116) G dX1_cell_109 (by decide) rfl (fun c1 => ?_) (fun c1 => ?_)
  · refine jv_iconst (q := 117) (v := nI 0) G dX1_cell_116 (by decide) rfl ?_
    refine jv_iret G hr dX1_cell_117 (Nat.le_of_ble_eq_true rfl) (Nat.le_of_ble_eq_true rfl) ?_
    refine ⟨?_, rfl⟩
    have hk := c1
    simp only [decide_eq_true_eq, decide_eq_false_iff_not] at hk
    show some (Value.int (nI _)) = some (Value.int (nI (K / 64)))
    congr 3
    omega
  · refine jv_iconst (q := 113) (v := nI 1) G dX1_cell_112 (by decide) rfl ?_
    refine jv_goto (q := 117) G dX1_cell_113 (by decide) ?_
    refine jv_iret G hr dX1_cell_117 (Nat.le_of_ble_eq_true rfl) (Nat.le_of_ble_eq_true rfl) ?_
    refine ⟨?_, rfl⟩
    have hk := c1
    simp only [decide_eq_true_eq, decide_eq_false_iff_not] at hk
    show some (Value.int (nI _)) = some (Value.int (nI (K / 64)))
    congr 3
    omega
