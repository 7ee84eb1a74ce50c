def m_mt (kd : Nat) : Bool := decide (kd = 2) || decide (kd = 3) || decide (kd = 4)
def m_rv (kd : Nat) : Bool := decide (kd = 2) || decide (kd = 4)
def m_ws (kd : Nat) : Bool := decide (kd = 1) || decide (kd = 3)
/-- a use's row; a caller's -/
def cv_use (h : jv_H) (u kd : Nat) (ty : Int32) (ko : Option Nat) (rc cv ow : Int32) : Prop := jv_sh h u = some (.inl 6) ∧ jv_I h u 0 = nI kd ∧ jv_I h u 1 = ty ∧ jv_I h u 2 = jv_oN ko ∧ jv_I h u 3 = rc ∧ jv_I h u 4 = cv ∧ jv_I h u 5 = ow
def cv_ca (h : jv_H) (c ec p : Nat) (su : Option Nat) : Prop := jv_sh h c = some (.inl 0) ∧ jv_I h c 0 = nI ec ∧ jv_I h c 1 = nI p ∧ jv_I h c 2 = jv_oN su
def c_ho (ts : List mT) (Us : Nat → List Nat) (kd : Nat) (ty : Int32) (ko : Option Nat) : Option Nat := (m_at ts ty).bind (fun k => c_fd ts Us k (m_mt kd) ko)
def c_rn (ts : List mT) (Us : Nat → List Nat) (ho : Option Nat) (ko : Option Nat) (rc : Int32) : Option Nat := match ho, m_cn ts rc false with
  | some k, some r => c_sl ts Us k ko r
  | _, _ => none
def c_ob (ts : List mT) (ho : Option Nat) (w : Bool) (ko : Option Nat) : Option mM := ho.bind (fun k => (ts[k]?).bind (fun t => m_om t w ko))
def c_ci (ts : List mT) (ho : Option Nat) (ko : Option Nat) : Int32 := match c_ob ts ho false ko with
  | none => -1
  | some m => if mm_c m then mm_b m else -1
def c_mt (ts : List mT) (Us : Nat → List Nat) (p : Nat) (su : Option Nat) (th : mT) (m : mM) : Bool := if mm_a m = 3 ∨ mm_a m = 0 then decide (mm_a m = 3) else if mt_k th = p then true else if mm_a m = 2 then (match m_at ts (jv_oN su) with
    | none => false
    | some k => (ts[k]?).any (fun t => decide (mt_n t = mt_n th) || decide (mt_n th ∈ Us k))) else false
def c_hr (ts : List mT) (Us : Nat → List Nat) (p : Nat) (su : Option Nat) (kd : Nat) (ty rc : Int32) (ko : Option Nat) (ho : Option Nat) : Nat := match (m_at ts ty).bind (fun k => ts[k]?) with
  | none => 1
  | some t => if m_rv kd && (m_at ts rc).isNone then 1 else if !mt_p t && !decide (mt_k t = p) then 3 else if m_rv kd && !decide (mt_i t = decide (kd = 4)) then 6 else if kd = 5 then (if mt_a t then 5 else 0) else match ho.bind (fun k => ts[k]?) with
    | none => 2
    | some th => match m_om th (m_mt kd) ko with
      | none => 2
      | some m => if c_mt ts Us p su th m then (if mm_t m = m_ws kd then 0 else 4) else 3
def c_hn (ts : List mT) (Us : Nat → List Nat) (kd : Nat) (ty rc : Int32) (ko : Option Nat) (rn : Option Nat) : Nat := match (m_at ts rc).bind (fun k => ts[k]?) with
  | none => 1
  | some r => if mt_i r || mt_a r || !(decide (rc = ty) || c_ha ts Us ty rc) then 6 else match c_ob ts rn true ko with
    | none => 5
    | some m => if m_abs m then 5 else if kd = 4 ∧ ¬ mm_a m = 3 then 3 else 0
theorem fd_get {ts : List mT} {Us : Nat → List Nat} {k : Nat} {w : Bool} {ko : Option Nat} {j : Nat} (h : c_fd ts Us k w ko = some j) : ∃ t, ts[j]? = some t ∧ True := by
  unfold c_fd at h
  split at h
  · cases h
  · split at h
    · cases h1 : c_nw ts ko 10 (some k) with
      | some i =>
        rw [h1] at h; cases h
        obtain ⟨t, ht, -⟩ := nw_get h1
        exact ⟨t, ht, trivial⟩
      | none =>
        rw [h1] at h
        dsimp only at h
        cases h2 : m_only (c_op ts (c_cd ts Us k ko) ko) ts.length with
        | some i =>
          rw [h2] at h; cases h
          obtain ⟨t, ht, -⟩ := only_get h2
          exact ⟨t, ht, trivial⟩
        | none =>
          rw [h2] at h
          dsimp only at h
          obtain ⟨t, ht, -⟩ := fo_get h
          exact ⟨t, ht, trivial⟩
    · unfold c_hf at h
      split at h
      · cases h
        rename_i hh
        cases ht : ts[k]? with
        | none => rw [ht] at hh; cases hh
        | some t => exact ⟨t, rfl, trivial⟩
      · obtain ⟨v, hv, h2⟩ := List.exists_of_findSome?_eq_some h
        unfold c_hl at h2
        cases hm : m_at ts (nI v) with
        | none => rw [hm] at h2; cases h2
        | some i =>
          rw [hm] at h2
          dsimp only at h2
          split at h2
          · cases h2
            obtain ⟨t, ht, -⟩ := m_at_get hm
            exact ⟨t, ht, trivial⟩
          · cases h2
theorem sw_get {ts : List mT} {t0 : mT} {m : mM} {ko : Option Nat} : ∀ {n : Nat} {o : Option Nat} {j : Nat}, c_sw ts t0 m ko n o = some j → ∃ t, ts[j]? = some t ∧ True
  | 0, o, j, h => by cases o <;> cases h
  | n + 1, none, j, h => by cases h
  | n + 1, some k, j, h => by
    rw [c_sw] at h
    cases ht : ts[k]? with
    | none => rw [ht] at h; cases h
    | some t =>
      rw [ht] at h
      dsimp only at h
      split at h
      · cases h; exact ⟨t, ht, trivial⟩
      · exact sw_get h
theorem sl_get {ts : List mT} {Us : Nat → List Nat} {k : Nat} {ko : Option Nat} {r j : Nat} (h : c_sl ts Us k ko r = some j) : ∃ t, ts[j]? = some t ∧ True := by
  unfold c_sl at h
  cases ht : ts[k]? with
  | none => rw [ht] at h; cases h
  | some t0 =>
    rw [ht] at h
    dsimp only at h
    cases hm : m_om t0 true ko with
    | none => rw [hm] at h; cases h
    | some m =>
      rw [hm] at h
      dsimp only at h
      split at h
      · cases h; exact ⟨t0, ht, trivial⟩
      · cases h2 : c_sw ts t0 m ko 10 (some r) with
        | some i => rw [h2] at h; cases h; exact sw_get h2
        | none =>
          rw [h2] at h
          dsimp only at h
          obtain ⟨t, ht, -⟩ := only_get h
          exact ⟨t, ht, trivial⟩
theorem ho_get {ts : List mT} {Us : Nat → List Nat} {kd : Nat} {ty : Int32} {ko : Option Nat} {j : Nat} (h : c_ho ts Us kd ty ko = some j) : ∃ t, ts[j]? = some t ∧ True := by
  unfold c_ho at h
  cases hm : m_at ts ty with
  | none => rw [hm] at h; cases h
  | some k => rw [hm] at h; exact fd_get h
theorem rn_get {ts : List mT} {Us : Nat → List Nat} {ho ko : Option Nat} {rc : Int32} {j : Nat} (h : c_rn ts Us ho ko rc = some j) : ∃ t, ts[j]? = some t ∧ True := by
  unfold c_rn at h
  cases ho with
  | none => cases h
  | some k =>
    cases hm : m_cn ts rc false with
    | none => rw [hm] at h; cases h
    | some r => rw [hm] at h; exact sl_get h
set_option maxHeartbeats 4000000 in
set_option maxRecDepth 100000 in
theorem k_hasReceiver {lA : Launch} (hlt : lA.stackTraces = false) {D : jv_D} {base : Nat} {h : jv_H} {u kd : Nat} {ty rc cv ow : Int32} {ko : Option Nat} (hu : cv_use h u kd ty ko rc cv ow) (hkd : kd < 6) : jv_Met lA D base yX6_hasReceiver (.code yX6_hasReceiver cX6_hasReceiver 1 (some .boolean)) 1 0 0 [.ref u] h (jv_rI (jv_bI (m_rv kd)) h) jv_no := by
  refine jv_ofV (lo := [(0, .ref u)]) hlt (by decide) (Nat.le_of_ble_eq_true rfl) rfl (fun E hEl hEd hEz Z G hr ht hnm => ?_)
  subst hEl; subst hEd; subst hEz
  refine jv_aload_n (q := 1) G 0 dX6_hasReceiver_0 rfl rfl rfl ?_
  refine jv_getI (q := 4) G dX6_hasReceiver_1 fl_X6_9 rfl hu.1 hu.2.1 rfl ?_
  refine jv_iconst (q := 5) (v := nI 2) G dX6_hasReceiver_4 (by decide) rfl ?_
  refine jv_icmp_eqN (q := 8) (tgt := 16) G dX6_hasReceiver_5 (by decide) rfl (by omega) (by omega) (fun c1 => ?_) (fun c1 => ?_)
  · refine jv_iconst (q := 17) (v := nI 1) G dX6_hasReceiver_16 (by decide) rfl ?_
    refine jv_goto (q := 21) G dX6_hasReceiver_17 (by decide) ?_
    refine jv_topI (y := jv_bI true) rfl ?_
    refine jv_zret G hr dX6_hasReceiver_21 (Nat.le_of_ble_eq_true rfl) (Nat.le_of_ble_eq_true rfl) ?_
    refine ⟨?_, rfl⟩; unfold m_rv; simp [*]
  · refine jv_aload_n (q := 9) G 0 dX6_hasReceiver_8 rfl rfl rfl ?_
    refine jv_getI (q := 12) G dX6_hasReceiver_9 fl_X6_9 rfl hu.1 hu.2.1 rfl ?_
    refine jv_iconst (q := 13) (v := nI 4) G dX6_hasReceiver_12 (by decide) rfl ?_
    refine jv_icmp_neN (q := 16) (tgt := 20) G dX6_hasReceiver_13 (by decide) rfl (by omega) (by omega) (fun c2 => ?_) (fun c2 => ?_)
    · refine jv_iconst (q := 21) (v := nI 0) G dX6_hasReceiver_20 (by decide) rfl ?_
      refine jv_topI (y := jv_bI false) rfl ?_
      refine jv_zret G hr dX6_hasReceiver_21 (Nat.le_of_ble_eq_true rfl) (Nat.le_of_ble_eq_true rfl) ?_
      refine ⟨?_, rfl⟩; unfold m_rv; simp [*]
    · refine jv_iconst (q := 17) (v := nI 1) G dX6_hasReceiver_16 (by decide) rfl ?_
      refine jv_goto (q := 21) G dX6_hasReceiver_17 (by decide) ?_
      refine jv_topI (y := jv_bI true) rfl ?_
      refine jv_zret G hr dX6_hasReceiver_21 (Nat.le_of_ble_eq_true rfl) (Nat.le_of_ble_eq_true rfl) ?_
      refine ⟨?_, rfl⟩; unfold m_rv; simp [*]
set_option maxHeartbeats 4000000 in
set_option maxRecDepth 100000 in
theorem k_isOfMethod {lA : Launch} (hlt : lA.stackTraces = false) {D : jv_D} {base : Nat} {h : jv_H} {u kd : Nat} {ty rc cv ow : Int32} {ko : Option Nat} (hu : cv_use h u kd ty ko rc cv ow) (hkd : kd < 6) : jv_Met lA D base yX6_isOfMethod (.code yX6_isOfMethod cX6_isOfMethod 1 (some .boolean)) 1 0 0 [.ref u] h (jv_rI (jv_bI (m_mt kd)) h) jv_no := by
  refine jv_ofV (lo := [(0, .ref u)]) hlt (by decide) (Nat.le_of_ble_eq_true rfl) rfl (fun E hEl hEd hEz Z G hr ht hnm => ?_)
  subst hEl; subst hEd; subst hEz
  refine jv_aload_n (q := 1) G 0 dX6_isOfMethod_0 rfl rfl rfl ?_
  refine jv_getI (q := 4) G dX6_isOfMethod_1 fl_X6_9 rfl hu.1 hu.2.1 rfl ?_
  refine jv_iconst (q := 5) (v := nI 2) G dX6_isOfMethod_4 (by decide) rfl ?_
  refine jv_icmp_eqN (q := 8) (tgt := 24) G dX6_isOfMethod_5 (by decide) rfl (by omega) (by omega) (fun c1 => ?_) (fun c1 => ?_)
  · refine jv_iconst (q := 25) (v := nI 1) G dX6_isOfMethod_24 (by decide) rfl ?_
    refine jv_goto (q := 29) G dX6_isOfMethod_25 (by decide) ?_
    refine jv_topI (y := jv_bI true) rfl ?_
    refine jv_zret G hr dX6_isOfMethod_29 (Nat.le_of_ble_eq_true rfl) (Nat.le_of_ble_eq_true rfl) ?_
    refine ⟨?_, rfl⟩; unfold m_mt; simp [*]
  · refine jv_aload_n (q := 9) G 0 dX6_isOfMethod_8 rfl rfl rfl ?_
    refine jv_getI (q := 12) G dX6_isOfMethod_9 fl_X6_9 rfl hu.1 hu.2.1 rfl ?_
    refine jv_iconst (q := 13) (v := nI 3) G dX6_isOfMethod_12 (by decide) rfl ?_
    refine jv_icmp_eqN (q := 16) (tgt := 24) G dX6_isOfMethod_13 (by decide) rfl (by omega) (by omega) (fun c2 => ?_) (fun c2 => ?_)
    · refine jv_iconst (q := 25) (v := nI 1) G dX6_isOfMethod_24 (by decide) rfl ?_
      refine jv_goto (q := 29) G dX6_isOfMethod_25 (by decide) ?_
      refine jv_topI (y := jv_bI true) rfl ?_
      refine jv_zret G hr dX6_isOfMethod_29 (Nat.le_of_ble_eq_true rfl) (Nat.le_of_ble_eq_true rfl) ?_
      refine ⟨?_, rfl⟩; unfold m_mt; simp [*]
    · refine jv_aload_n (q := 17) G 0 dX6_isOfMethod_16 rfl rfl rfl ?_
      refine jv_getI (q := 20) G dX6_isOfMethod_17 fl_X6_9 rfl hu.1 hu.2.1 rfl ?_
      refine jv_iconst (q := 21) (v := nI 4) G dX6_isOfMethod_20 (by decide) rfl ?_
      refine jv_icmp_neN (q := 24) (tgt := 28) G dX6_isOfMethod_21 (by decide) rfl (by omega) (by omega) (fun c3 => ?_) (fun c3 => ?_)
      · refine jv_iconst (q := 29) (v := nI 0) G dX6_isOfMethod_28 (by decide) rfl ?_
        refine jv_topI (y := jv_bI false) rfl ?_
        refine jv_zret G hr dX6_isOfMethod_29 (Nat.le_of_ble_eq_true rfl) (Nat.le_of_ble_eq_true rfl) ?_
        refine ⟨?_, rfl⟩; unfold m_mt; simp [*]
      · refine jv_iconst (q := 25) (v := nI 1) G dX6_isOfMethod_24 (by decide) rfl ?_
        refine jv_goto (q := 29) G dX6_isOfMethod_25 (by decide) ?_
        refine jv_topI (y := jv_bI true) rfl ?_
        refine jv_zret G hr dX6_isOfMethod_29 (Nat.le_of_ble_eq_true rfl) (Nat.le_of_ble_eq_true rfl) ?_
        refine ⟨?_, rfl⟩; unfold m_mt; simp [*]
set_option maxHeartbeats 4000000 in
set_option maxRecDepth 100000 in
theorem k_wantsStatic {lA : Launch} (hlt : lA.stackTraces = false) {D : jv_D} {base : Nat} {h : jv_H} {u kd : Nat} {ty rc cv ow : Int32} {ko : Option Nat} (hu : cv_use h u kd ty ko rc cv ow) (hkd : kd < 6) : jv_Met lA D base yX6_wantsStatic (.code yX6_wantsStatic cX6_wantsStatic 1 (some .boolean)) 1 0 0 [.ref u] h (jv_rI (jv_bI (m_ws kd)) h) jv_no := by
  refine jv_ofV (lo := [(0, .ref u)]) hlt (by decide) (Nat.le_of_ble_eq_true rfl) rfl (fun E hEl hEd hEz Z G hr ht hnm => ?_)
  subst hEl; subst hEd; subst hEz
  refine jv_aload_n (q := 1) G 0 dX6_wantsStatic_0 rfl rfl rfl ?_
  refine jv_getI (q := 4) G dX6_wantsStatic_1 fl_X6_9 rfl hu.1 hu.2.1 rfl ?_
  refine jv_iconst (q := 5) (v := nI 1) G dX6_wantsStatic_4 (by decide) rfl ?_
  refine jv_icmp_eqN (q := 8) (tgt := 16) G dX6_wantsStatic_5 (by decide) rfl (by omega) (by omega) (fun c1 => ?_) (fun c1 => ?_)
  · refine jv_iconst (q := 17) (v := nI 1) G dX6_wantsStatic_16 (by decide) rfl ?_
    refine jv_goto (q := 21) G dX6_wantsStatic_17 (by decide) ?_
    refine jv_topI (y := jv_bI true) rfl ?_
    refine jv_zret G hr dX6_wantsStatic_21 (Nat.le_of_ble_eq_true rfl) (Nat.le_of_ble_eq_true rfl) ?_
    refine ⟨?_, rfl⟩; unfold m_ws; simp [*]
  · refine jv_aload_n (q := 9) G 0 dX6_wantsStatic_8 rfl rfl rfl ?_
    refine jv_getI (q := 12) G dX6_wantsStatic_9 fl_X6_9 rfl hu.1 hu.2.1 rfl ?_
    refine jv_iconst (q := 13) (v := nI 3) G dX6_wantsStatic_12 (by decide) rfl ?_
    refine jv_icmp_neN (q := 16) (tgt := 20) G dX6_wantsStatic_13 (by decide) rfl (by omega) (by omega) (fun c2 => ?_) (fun c2 => ?_)
    · refine jv_iconst (q := 21) (v := nI 0) G dX6_wantsStatic_20 (by decide) rfl ?_
      refine jv_topI (y := jv_bI false) rfl ?_
      refine jv_zret G hr dX6_wantsStatic_21 (Nat.le_of_ble_eq_true rfl) (Nat.le_of_ble_eq_true rfl) ?_
      refine ⟨?_, rfl⟩; unfold m_ws; simp [*]
    · refine jv_iconst (q := 17) (v := nI 1) G dX6_wantsStatic_16 (by decide) rfl ?_
      refine jv_goto (q := 21) G dX6_wantsStatic_17 (by decide) ?_
      refine jv_topI (y := jv_bI true) rfl ?_
      refine jv_zret G hr dX6_wantsStatic_21 (Nat.le_of_ble_eq_true rfl) (Nat.le_of_ble_eq_true rfl) ?_
      refine ⟨?_, rfl⟩; unfold m_ws; simp [*]
set_option maxHeartbeats 4000000 in
set_option maxRecDepth 100000 in
theorem k_holder {lA : Launch} (hlt : lA.stackTraces = false) {D : jv_D} {base : Nat} {z : Nat → Nat → Nat} {T : Nat → Nat} {N : Nat → Nat → Nat} {h : jv_H} {e : Nat} {ts : List mT} (hE : cv_E z T N h e ts) {Us : Nat → List Nat} (hU : cv_Us z T h e ts Us) {u kd : Nat} {ty rc cv ow : Int32} {ko : Option Nat} (hu : cv_use h u kd ty ko rc cv ow) (hkd : kd < 6) (hK : ∀ K, ko = some K → K < 64) : jv_Met lA D base yX6_holder (.code yX6_holder cX6_holder 2 (some (.object "LinkArchive$Type"))) 4 0 0 [.ref u, .ref (z 0 e)] h (jv_rR ((c_ho ts Us kd ty ko).map (fun k => T (10 * e + k))) h) jv_no := by
  refine jv_ofV (lo := [(0, .ref u), (1, .ref (z 0 e))]) hlt (by decide) (Nat.le_of_ble_eq_true rfl) rfl (fun E hEl hEd hEz Z G hr ht hnm => ?_)
  subst hEl; subst hEd; subst hEz
  refine jv_aload_n (q := 1) G 1 dX6_holder_0 rfl rfl rfl ?_
  refine jv_aload_n (q := 2) G 1 dX6_holder_1 rfl rfl rfl ?_
  refine jv_aload_n (q := 3) G 0 dX6_holder_2 rfl rfl rfl ?_
  refine jv_getI (q := 6) G dX6_holder_3 fl_X6_15 rfl hu.1 hu.2.2.1 rfl ?_
  refine jv_callV_R (q := 9) (h1 := h) (As := [.int ty]) (rest := [.ref (z 0 e)]) (ce' := 0) (sl' := 0) (r := ((m_at ts ty).map (fun k => T (10 * e + k)))) G Z ml_X6_30 (k_named hlt hE) hE.1.1 dX6_holder_6 rfl (by decide) (by decide) (by decide) (by decide) (Nat.le_of_ble_eq_true rfl) rfl rfl rfl rfl ?_
  rcases Option.eq_none_or_eq_some (m_at ts ty) with hk3 | ⟨k1, hk3⟩
  · refine jv_topR (y := none) (by rw [hk3]; rfl) ?_
    refine jv_aload_n (q := 10) G 0 dX6_holder_9 rfl rfl rfl ?_
    refine jv_callV_I (q := 13) (h1 := h) (As := []) (rest := [va_rf none, .ref (z 0 e)]) (ce' := 0) (sl' := 0) (r := jv_bI (m_mt kd)) G Z ml_X6_36 (k_isOfMethod hlt hu hkd) hu.1 dX6_holder_10 rfl (by decide) (by decide) (by decide) (by decide) (Nat.le_of_ble_eq_true rfl) rfl rfl rfl rfl ?_
    refine jv_aload_n (q := 14) G 0 dX6_holder_13 rfl rfl rfl ?_
    refine jv_getI (q := 17) G dX6_holder_14 fl_X6_18 rfl hu.1 hu.2.2.2.1 rfl ?_
    refine jv_callV_R (q := 20) (h1 := h) (As := [va_rf none, .int (jv_bI (m_mt kd)), .int (jv_oN ko)]) (rest := []) (ce' := 0) (sl' := 0) (r := none) G Z ml_X6_40 (k_found0 (w := m_mt kd) (ko := ko) hlt hE) hE.1.1 dX6_holder_17 rfl (by decide) (by decide) (by decide) (by decide) (Nat.le_of_ble_eq_true rfl) rfl rfl rfl rfl ?_
    refine jv_aret G hr dX6_holder_20 (Nat.le_of_ble_eq_true rfl) (Nat.le_of_ble_eq_true rfl) ?_
    refine ⟨?_, rfl⟩; unfold c_ho; rw [hk3]; rfl
  · refine jv_topR (y := (some (T (10 * e + k1)))) (by rw [hk3]; rfl) ?_
    obtain ⟨t2, ht2, nt2⟩ := m_at_get hk3
    have lt2 := jv_ltGet ht2
    have k10t2 : k1 < 10 := by have := hE.2.2.2.1; omega
    have Ot2 := (hE.2.2.2.2.1 k1 t2 ht2).2
    have Vt2 := (hE.2.2.2.2.1 k1 t2 ht2).1
    have Yt2 := hE.2.1 k1 k10t2
    have bt2n := Ot2.1; have bt2k := Ot2.2.1
    refine jv_aload_n (q := 10) G 0 dX6_holder_9 rfl rfl rfl ?_
    refine jv_callV_I (q := 13) (h1 := h) (As := []) (rest := [.ref (T (10 * e + k1)), .ref (z 0 e)]) (ce' := 0) (sl' := 0) (r := jv_bI (m_mt kd)) G Z ml_X6_36 (k_isOfMethod hlt hu hkd) hu.1 dX6_holder_10 rfl (by decide) (by decide) (by decide) (by decide) (Nat.le_of_ble_eq_true rfl) rfl rfl rfl rfl ?_
    refine jv_aload_n (q := 14) G 0 dX6_holder_13 rfl rfl rfl ?_
    refine jv_getI (q := 17) G dX6_holder_14 fl_X6_18 rfl hu.1 hu.2.2.2.1 rfl ?_
    refine jv_callV_R (q := 20) (h1 := h) (As := [.ref (T (10 * e + k1)), .int (jv_bI (m_mt kd)), .int (jv_oN ko)]) (rest := []) (ce' := 0) (sl' := 0) (r := ((c_fd ts Us k1 (m_mt kd) ko).map (fun k => T (10 * e + k)))) G Z ml_X6_40 (k_found1 (w := m_mt kd) hlt hE hU ht2 hK) hE.1.1 dX6_holder_17 rfl (by decide) (by decide) (by decide) (by decide) (Nat.le_of_ble_eq_true rfl) rfl rfl rfl rfl ?_
    refine jv_aret G hr dX6_holder_20 (Nat.le_of_ble_eq_true rfl) (Nat.le_of_ble_eq_true rfl) ?_
    refine ⟨?_, rfl⟩; unfold c_ho; rw [hk3]; rfl
set_option maxHeartbeats 4000000 in
set_option maxRecDepth 100000 in
theorem k_runner0 {lA : Launch} (hlt : lA.stackTraces = false) {D : jv_D} {base : Nat} {z : Nat → Nat → Nat} {T : Nat → Nat} {N : Nat → Nat → Nat} {h : jv_H} {e : Nat} {ts : List mT} (hE : cv_E z T N h e ts) {Us : Nat → List Nat} (hU : cv_Us z T h e ts Us) {u kd : Nat} {ty rc cv ow : Int32} {ko : Option Nat} (hu : cv_use h u kd ty ko rc cv ow) (hkd : kd < 6) (hK : ∀ K, ko = some K → K < 64) : jv_Met lA D base yX6_runner (.code yX6_runner cX6_runner 3 (some (.object "LinkArchive$Type"))) 5 0 0 [.ref u, .ref (z 0 e), va_rf none] h (jv_rR ((c_rn ts Us none ko rc).map (fun k => T (10 * e + k))) h) jv_no := by
  refine jv_ofV (lo := [(0, .ref u), (1, .ref (z 0 e)), (2, va_rf none)]) hlt (by decide) (Nat.le_of_ble_eq_true rfl) rfl (fun E hEl hEd hEz Z G hr ht hnm => ?_)
  subst hEl; subst hEd; subst hEz
  refine jv_aload_n (q := 1) G 1 dX6_runner_0 rfl rfl rfl ?_
  refine jv_aload_nR (q := 2) G 2 dX6_runner_1 rfl rfl rfl ?_
  refine jv_aload_n (q := 3) G 0 dX6_runner_2 rfl rfl rfl ?_
  refine jv_getI (q := 6) G dX6_runner_3 fl_X6_18 rfl hu.1 hu.2.2.2.1 rfl ?_
  refine jv_aload_n (q := 7) G 1 dX6_runner_6 rfl rfl rfl ?_
  refine jv_aload_n (q := 8) G 0 dX6_runner_7 rfl rfl rfl ?_
  refine jv_getI (q := 11) G dX6_runner_8 fl_X6_21 rfl hu.1 hu.2.2.2.2.1 rfl ?_
  refine jv_callV_R (q := 14) (h1 := h) (As := [.int rc]) (rest := [.int (jv_oN ko), va_rf none, .ref (z 0 e)]) (ce' := 0) (sl' := 0) (r := ((m_cn ts rc false).map (fun k => T (10 * e + k)))) G Z ml_X6_44 (k_classNamed hlt hE) hE.1.1 dX6_runner_11 rfl (by decide) (by decide) (by decide) (by decide) (Nat.le_of_ble_eq_true rfl) rfl rfl rfl rfl ?_
  rcases Option.eq_none_or_eq_some (m_cn ts rc false) with hk3 | ⟨k1, hk3⟩
  · refine jv_topR (y := none) (by rw [hk3]; rfl) ?_
    refine jv_callV_R (q := 17) (h1 := h) (As := [va_rf none, .int (jv_oN ko), va_rf none]) (rest := []) (ce' := 0) (sl' := 0) (r := none) G Z ml_X6_47 (k_selected0b (ko := ko) hlt hE) hE.1.1 dX6_runner_14 rfl (by decide) (by decide) (by decide) (by decide) (Nat.le_of_ble_eq_true rfl) rfl rfl rfl rfl ?_
    refine jv_aret G hr dX6_runner_17 (Nat.le_of_ble_eq_true rfl) (Nat.le_of_ble_eq_true rfl) ?_
    refine ⟨?_, rfl⟩; unfold c_rn; rfl
  · refine jv_topR (y := (some (T (10 * e + k1)))) (by rw [hk3]; rfl) ?_
    obtain ⟨t2, ht2, nt2⟩ := m_cn_get hk3
    have lt2 := jv_ltGet ht2
    have k10t2 : k1 < 10 := by have := hE.2.2.2.1; omega
    have Ot2 := (hE.2.2.2.2.1 k1 t2 ht2).2
    have Vt2 := (hE.2.2.2.2.1 k1 t2 ht2).1
    have Yt2 := hE.2.1 k1 k10t2
    have bt2n := Ot2.1; have bt2k := Ot2.2.1
    refine jv_callV_R (q := 17) (h1 := h) (As := [va_rf none, .int (jv_oN ko), .ref (T (10 * e + k1))]) (rest := []) (ce' := 0) (sl' := 0) (r := none) G Z ml_X6_47 (k_selected0a (ko := ko) hlt hE) hE.1.1 dX6_runner_14 rfl (by decide) (by decide) (by decide) (by decide) (Nat.le_of_ble_eq_true rfl) rfl rfl rfl rfl ?_
    refine jv_aret G hr dX6_runner_17 (Nat.le_of_ble_eq_true rfl) (Nat.le_of_ble_eq_true rfl) ?_
    refine ⟨?_, rfl⟩; unfold c_rn; rfl
set_option maxHeartbeats 4000000 in
set_option maxRecDepth 100000 in
theorem k_runner1 {lA : Launch} (hlt : lA.stackTraces = false) {D : jv_D} {base : Nat} {z : Nat → Nat → Nat} {T : Nat → Nat} {N : Nat → Nat → Nat} {h : jv_H} {e : Nat} {ts : List mT} (hE : cv_E z T N h e ts) {Us : Nat → List Nat} (hU : cv_Us z T h e ts Us) {u kd : Nat} {ty rc cv ow : Int32} {ko : Option Nat} (hu : cv_use h u kd ty ko rc cv ow) (hkd : kd < 6) (hK : ∀ K, ko = some K → K < 64) {k0 : Nat} {t0 : mT} (ht0 : ts[k0]? = some t0) : jv_Met lA D base yX6_runner (.code yX6_runner cX6_runner 3 (some (.object "LinkArchive$Type"))) 5 0 0 [.ref u, .ref (z 0 e), .ref (T (10 * e + k0))] h (jv_rR ((c_rn ts Us (some k0) ko rc).map (fun k => T (10 * e + k))) h) jv_no := by
  refine jv_ofV (lo := [(0, .ref u), (1, .ref (z 0 e)), (2, .ref (T (10 * e + k0)))]) hlt (by decide) (Nat.le_of_ble_eq_true rfl) rfl (fun E hEl hEd hEz Z G hr ht hnm => ?_)
  subst hEl; subst hEd; subst hEz
  have lt0 := jv_ltGet ht0
  have k10t0 : k0 < 10 := by have := hE.2.2.2.1; omega
  have Ot0 := (hE.2.2.2.2.1 k0 t0 ht0).2
  have Vt0 := (hE.2.2.2.2.1 k0 t0 ht0).1
  have Yt0 := hE.2.1 k0 k10t0
  have bt0n := Ot0.1; have bt0k := Ot0.2.1
  refine jv_aload_n (q := 1) G 1 dX6_runner_0 rfl rfl rfl ?_
  refine jv_aload_n (q := 2) G 2 dX6_runner_1 rfl rfl rfl ?_
  refine jv_aload_n (q := 3) G 0 dX6_runner_2 rfl rfl rfl ?_
  refine jv_getI (q := 6) G dX6_runner_3 fl_X6_18 rfl hu.1 hu.2.2.2.1 rfl ?_
  refine jv_aload_n (q := 7) G 1 dX6_runner_6 rfl rfl rfl ?_
  refine jv_aload_n (q := 8) G 0 dX6_runner_7 rfl rfl rfl ?_
  refine jv_getI (q := 11) G dX6_runner_8 fl_X6_21 rfl hu.1 hu.2.2.2.2.1 rfl ?_
  refine jv_callV_R (q := 14) (h1 := h) (As := [.int rc]) (rest := [.int (jv_oN ko), .ref (T (10 * e + k0)), .ref (z 0 e)]) (ce' := 0) (sl' := 0) (r := ((m_cn ts rc false).map (fun k => T (10 * e + k)))) G Z ml_X6_44 (k_classNamed hlt hE) hE.1.1 dX6_runner_11 rfl (by decide) (by decide) (by decide) (by decide) (Nat.le_of_ble_eq_true rfl) rfl rfl rfl rfl ?_
  rcases Option.eq_none_or_eq_some (m_cn ts rc false) with hk3 | ⟨k1, hk3⟩
  · refine jv_topR (y := none) (by rw [hk3]; rfl) ?_
    refine jv_callV_R (q := 17) (h1 := h) (As := [.ref (T (10 * e + k0)), .int (jv_oN ko), va_rf none]) (rest := []) (ce' := 0) (sl' := 0) (r := none) G Z ml_X6_47 (k_selected1 hlt hE hU ht0 hK) hE.1.1 dX6_runner_14 rfl (by decide) (by decide) (by decide) (by decide) (Nat.le_of_ble_eq_true rfl) rfl rfl rfl rfl ?_
    refine jv_aret G hr dX6_runner_17 (Nat.le_of_ble_eq_true rfl) (Nat.le_of_ble_eq_true rfl) ?_
    refine ⟨?_, rfl⟩; unfold c_rn; rw [hk3]; first | done | rfl
  · refine jv_topR (y := (some (T (10 * e + k1)))) (by rw [hk3]; rfl) ?_
    obtain ⟨t2, ht2, nt2⟩ := m_cn_get hk3
    have lt2 := jv_ltGet ht2
    have k10t2 : k1 < 10 := by have := hE.2.2.2.1; omega
    have Ot2 := (hE.2.2.2.2.1 k1 t2 ht2).2
    have Vt2 := (hE.2.2.2.2.1 k1 t2 ht2).1
    have Yt2 := hE.2.1 k1 k10t2
    have bt2n := Ot2.1; have bt2k := Ot2.2.1
    refine jv_callV_R (q := 17) (h1 := h) (As := [.ref (T (10 * e + k0)), .int (jv_oN ko), .ref (T (10 * e + k1))]) (rest := []) (ce' := 0) (sl' := 0) (r := ((c_sl ts Us k0 ko k1).map (fun k => T (10 * e + k)))) G Z ml_X6_47 (k_selected2 hlt hE hU ht0 hK ht2) hE.1.1 dX6_runner_14 rfl (by decide) (by decide) (by decide) (by decide) (Nat.le_of_ble_eq_true rfl) rfl rfl rfl rfl ?_
    refine jv_aret G hr dX6_runner_17 (Nat.le_of_ble_eq_true rfl) (Nat.le_of_ble_eq_true rfl) ?_
    refine ⟨?_, rfl⟩; unfold c_rn; rw [hk3]; first | done | rfl
set_option maxHeartbeats 4000000 in
set_option maxRecDepth 100000 in
theorem k_constantIn0 {lA : Launch} (hlt : lA.stackTraces = false) {D : jv_D} {base : Nat} {z : Nat → Nat → Nat} {T : Nat → Nat} {N : Nat → Nat → Nat} {h : jv_H} {e : Nat} {ts : List mT} (hE : cv_E z T N h e ts) {u kd : Nat} {ty rc cv ow : Int32} {ko : Option Nat} (hu : cv_use h u kd ty ko rc cv ow) (hkd : kd < 6) (hK : ∀ K, ko = some K → K < 64) : jv_Met lA D base yX6_constantIn (.code yX6_constantIn cX6_constantIn 3 (some .int)) 2 0 0 [.ref u, va_rf none] h (jv_rI (c_ci ts none ko) h) jv_no := by
  refine jv_ofV (lo := [(0, .ref u), (1, va_rf none)]) hlt (by decide) (Nat.le_of_ble_eq_true rfl) rfl (fun E hEl hEd hEz Z G hr ht hnm => ?_)
  subst hEl; subst hEd; subst hEz
  refine jv_aload_nR (q := 1) G 1 dX6_constantIn_0 rfl rfl rfl ?_
  refine jv_ifnonnull (q := 4) (tgt := 8) (x := none) G dX6_constantIn_1 (by decide) rfl (fun a2 c1 => ?_) (fun c1 => ?_)
  · cases c1
  · refine jv_null (q := 5) G dX6_constantIn_4 rfl ?_
    refine jv_goto (q := 17) G dX6_constantIn_5 (by decide) ?_
    refine jv_astore_nR (q := 18) (lo' := [(2, va_rf none), (0, .ref u), (1, va_rf none)]) (x := none) G dX6_constantIn_17 rfl (by decide) rfl rfl ?_
    refine jv_aload_nR (q := 19) G 0 dX6_constantIn_18 rfl rfl rfl ?_
    refine jv_ifnull (q := 22) (tgt := 29) (x := none) G dX6_constantIn_19 (by decide) rfl (fun c3 => ?_) (fun a4 c3 => ?_)
    · refine jv_iconst (q := 30) (v := (-1)) G dX6_constantIn_29 (by decide) rfl ?_
      refine jv_goto (q := 37) G dX6_constantIn_30 (by decide) ?_
      refine jv_iret G hr dX6_constantIn_37 (Nat.le_of_ble_eq_true rfl) (Nat.le_of_ble_eq_true rfl) ?_
      exact ⟨rfl, rfl⟩
    · cases c3
set_option maxHeartbeats 4000000 in
set_option maxRecDepth 100000 in
theorem k_constantIn1 {lA : Launch} (hlt : lA.stackTraces = false) {D : jv_D} {base : Nat} {z : Nat → Nat → Nat} {T : Nat → Nat} {N : Nat → Nat → Nat} {h : jv_H} {e : Nat} {ts : List mT} (hE : cv_E z T N h e ts) {u kd : Nat} {ty rc cv ow : Int32} {ko : Option Nat} (hu : cv_use h u kd ty ko rc cv ow) (hkd : kd < 6) (hK : ∀ K, ko = some K → K < 64) {k0 : Nat} {t0 : mT} (ht0 : ts[k0]? = some t0) : jv_Met lA D base yX6_constantIn (.code yX6_constantIn cX6_constantIn 3 (some .int)) 2 0 0 [.ref u, .ref (T (10 * e + k0))] h (jv_rI (c_ci ts (some k0) ko) h) jv_no := by
  refine jv_ofV (lo := [(0, .ref u), (1, .ref (T (10 * e + k0)))]) hlt (by decide) (Nat.le_of_ble_eq_true rfl) rfl (fun E hEl hEd hEz Z G hr ht hnm => ?_)
  subst hEl; subst hEd; subst hEz
  have lt0 := jv_ltGet ht0
  have k10t0 : k0 < 10 := by have := hE.2.2.2.1; omega
  have Ot0 := (hE.2.2.2.2.1 k0 t0 ht0).2
  have Vt0 := (hE.2.2.2.2.1 k0 t0 ht0).1
  have Yt0 := hE.2.1 k0 k10t0
  have bt0n := Ot0.1; have bt0k := Ot0.2.1
  refine jv_aload_n (q := 1) G 1 dX6_constantIn_0 rfl rfl rfl ?_
  refine jv_ifnonnull (q := 4) (tgt := 8) (x := (some (T (10 * e + k0)))) G dX6_constantIn_1 (by decide) rfl (fun a2 c1 => ?_) (fun c1 => ?_)
  · refine jv_aload_n (q := 9) G 1 dX6_constantIn_8 rfl rfl rfl ?_
    refine jv_iconst (q := 10) (v := nI 0) G dX6_constantIn_9 (by decide) rfl ?_
    refine jv_aload_n (q := 11) G 0 dX6_constantIn_10 rfl rfl rfl ?_
    refine jv_getI (q := 14) G dX6_constantIn_11 fl_X6_18 rfl hu.1 hu.2.2.2.1 rfl ?_
    refine jv_callV_R (q := 17) (h1 := h) (As := [.int (nI 0), .int (jv_oN ko)]) (rest := []) (ce' := 0) (sl' := 0) (r := ((m_oc t0 false ko).map (N (T (10 * e + k0))))) G Z ml_X6_69 (k_own (w := false) (ko := ko) hlt Yt0 Vt0 Ot0 hK) (hE.2.1 k0 k10t0).1 dX6_constantIn_14 rfl (by decide) (by decide) (by decide) (by decide) (Nat.le_of_ble_eq_true rfl) rfl rfl rfl rfl ?_
    rcases Option.eq_none_or_eq_some (m_oc t0 false ko) with hj5 | ⟨j3, hj5⟩
    · refine jv_topR (y := none) (by rw [hj5]; rfl) ?_
      refine jv_astore_nR (q := 18) (lo' := [(2, va_rf none), (0, .ref u), (1, .ref (T (10 * e + k0)))]) (x := none) G dX6_constantIn_17 rfl (by decide) rfl rfl ?_
      refine jv_aload_nR (q := 19) G 0 dX6_constantIn_18 rfl rfl rfl ?_
      refine jv_ifnull (q := 22) (tgt := 29) (x := none) G dX6_constantIn_19 (by decide) rfl (fun c6 => ?_) (fun a7 c6 => ?_)
      · refine jv_iconst (q := 30) (v := (-1)) G dX6_constantIn_29 (by decide) rfl ?_
        refine jv_goto (q := 37) G dX6_constantIn_30 (by decide) ?_
        refine jv_iret G hr dX6_constantIn_37 (Nat.le_of_ble_eq_true rfl) (Nat.le_of_ble_eq_true rfl) ?_
        refine ⟨?_, rfl⟩; unfold c_ci c_ob; rw [Option.bind_some, ht0, Option.bind_some, om_n hj5]
      · cases c6
    · refine jv_topR (y := (some (N (T (10 * e + k0)) j3))) (by rw [hj5]; rfl) ?_
      obtain ⟨m4, hm4, wm4, km4⟩ := oc_some hj5
      have lm4 := jv_ltGet hm4
      have Om4 := Ot0.2.2.2.2.2.2 m4 (List.mem_of_getElem? hm4)
      have Vm4 := ct_m Vt0 hm4
      have j6m4 : j3 < 6 := by have := Ot0.2.2.2.2.2.1; omega
      have bm4a := Om4.2.2.1
      refine jv_astore_n (q := 18) (lo' := [(2, .ref (N (T (10 * e + k0)) j3)), (0, .ref u), (1, .ref (T (10 * e + k0)))]) G dX6_constantIn_17 rfl (by decide) rfl rfl ?_
      refine jv_aload_n (q := 19) G 0 dX6_constantIn_18 rfl rfl rfl ?_
      refine jv_ifnull (q := 22) (tgt := 29) (x := (some (N (T (10 * e + k0)) j3))) G dX6_constantIn_19 (by decide) rfl (fun c8 => ?_) (fun a9 c8 => ?_)
      · cases c8
      · refine jv_aload_n (q := 23) G 0 dX6_constantIn_22 rfl rfl rfl ?_
        refine jv_getZ (q := 26) G dX6_constantIn_23 fl_X6_75 rfl (Yt0.2.2.2.2.2.2.2 j3 j6m4).2 Vm4.2.1 rfl ?_
        refine jv_if_neB (q := 29) (tgt := 33) G dX6_constantIn_26 (by decide) rfl (fun c10 => ?_) (fun c10 => ?_)
        · refine jv_aload_n (q := 34) G 0 dX6_constantIn_33 rfl rfl rfl ?_
          refine jv_getI (q := 37) G dX6_constantIn_34 fl_X6_81 rfl (Yt0.2.2.2.2.2.2.2 j3 j6m4).2 Vm4.2.2.2.2.2 rfl ?_
          refine jv_iret G hr dX6_constantIn_37 (Nat.le_of_ble_eq_true rfl) (Nat.le_of_ble_eq_true rfl) ?_
          refine ⟨?_, rfl⟩; unfold c_ci c_ob; rw [Option.bind_some, ht0, Option.bind_some, om_s hj5 hm4]; dsimp only; simp [c10]
        · refine jv_iconst (q := 30) (v := (-1)) G dX6_constantIn_29 (by decide) rfl ?_
          refine jv_goto (q := 37) G dX6_constantIn_30 (by decide) ?_
          refine jv_iret G hr dX6_constantIn_37 (Nat.le_of_ble_eq_true rfl) (Nat.le_of_ble_eq_true rfl) ?_
          refine ⟨?_, rfl⟩; unfold c_ci c_ob; rw [Option.bind_some, ht0, Option.bind_some, om_s hj5 hm4]; dsimp only; simp [c10]
  · cases c1
set_option maxHeartbeats 4000000 in
set_option maxRecDepth 100000 in
theorem k_mayTouch {lA : Launch} (hlt : lA.stackTraces = false) {D : jv_D} {base : Nat} {z : Nat → Nat → Nat} {T : Nat → Nat} {N : Nat → Nat → Nat} {h : jv_H} {e : Nat} {ts : List mT} (hE : cv_E z T N h e ts) {Us : Nat → List Nat} (hU : cv_Us z T h e ts Us) {c ec p : Nat} {su : Option Nat} (hc : cv_ca h c ec p su) (hp : p < 5) {k0 : Nat} {t0 : mT} (ht0 : ts[k0]? = some t0) {b : Nat} {m : mM} (hb : jv_sh h b = some (.inl 3)) (hm : cv_M h b m) (Om : mm_ok m) : jv_Met lA D base yX0_mayTouch (.code yX0_mayTouch cX0_mayTouch 5 (some .boolean)) 2 0 0 [.ref c, .ref (z 0 e), .ref (T (10 * e + k0)), .ref b] h (jv_rI (jv_bI (c_mt ts Us p su t0 m)) h) jv_no := by
  refine jv_ofV (lo := [(0, .ref c), (1, .ref (z 0 e)), (2, .ref (T (10 * e + k0))), (3, .ref b)]) hlt (by decide) (Nat.le_of_ble_eq_true rfl) rfl (fun E hEl hEd hEz Z G hr ht hnm => ?_)
  subst hEl; subst hEd; subst hEz
  have lt0 := jv_ltGet ht0
  have k10t0 : k0 < 10 := by have := hE.2.2.2.1; omega
  have Ot0 := (hE.2.2.2.2.1 k0 t0 ht0).2
  have Vt0 := (hE.2.2.2.2.1 k0 t0 ht0).1
  have Yt0 := hE.2.1 k0 k10t0
  have bt0n := Ot0.1; have bt0k := Ot0.2.1
  have ba := Om.2.2.1
  refine jv_aload_n (q := 1) G 3 dX0_mayTouch_0 rfl rfl rfl ?_
  refine jv_getI (q := 4) G dX0_mayTouch_1 fl_X0_31 rfl hb hm.2.2.2.2.1 rfl ?_
  refine jv_iconst (q := 5) (v := nI 3) G dX0_mayTouch_4 (by decide) rfl ?_
  refine jv_icmp_eqN (q := 8) (tgt := 15) G dX0_mayTouch_5 (by decide) rfl (by omega) (by omega) (fun c1 => ?_) (fun c1 => ?_)
  · refine jv_aload_n (q := 16) G 3 dX0_mayTouch_15 rfl rfl rfl ?_
    refine jv_getI (q := 19) G dX0_mayTouch_16 fl_X0_31 rfl hb hm.2.2.2.2.1 rfl ?_
    refine jv_iconst (q := 20) (v := nI 3) G dX0_mayTouch_19 (by decide) rfl ?_
    refine jv_icmp_neN (q := 23) (tgt := 27) G dX0_mayTouch_20 (by decide) rfl (by omega) (by omega) (fun c2 => ?_) (fun c2 => ?_)
    · refine jv_iconst (q := 28) (v := nI 0) G dX0_mayTouch_27 (by decide) rfl ?_
      refine jv_topI (y := jv_bI false) rfl ?_
      refine jv_zret G hr dX0_mayTouch_28 (Nat.le_of_ble_eq_true rfl) (Nat.le_of_ble_eq_true rfl) ?_
      first | (refine ⟨?_, rfl⟩; unfold c_mt; simp [c1, c2]; done) | (exfalso; omega)
    · refine jv_iconst (q := 24) (v := nI 1) G dX0_mayTouch_23 (by decide) rfl ?_
      refine jv_goto (q := 28) G dX0_mayTouch_24 (by decide) ?_
      refine jv_topI (y := jv_bI true) rfl ?_
      refine jv_zret G hr dX0_mayTouch_28 (Nat.le_of_ble_eq_true rfl) (Nat.le_of_ble_eq_true rfl) ?_
      first | (refine ⟨?_, rfl⟩; unfold c_mt; simp [c1, c2]; done) | (exfalso; omega)
  · refine jv_aload_n (q := 9) G 3 dX0_mayTouch_8 rfl rfl rfl ?_
    refine jv_getI (q := 12) G dX0_mayTouch_9 fl_X0_31 rfl hb hm.2.2.2.2.1 rfl ?_
    refine jv_if_neN (q := 15) (tgt := 29) G dX0_mayTouch_12 (by decide) rfl (by omega) (fun c3 => ?_) (fun c3 => ?_)
    · refine jv_aload_n (q := 30) G 2 dX0_mayTouch_29 rfl rfl rfl ?_
      refine jv_getI (q := 33) G dX0_mayTouch_30 fl_X0_36 rfl (hE.2.1 k0 k10t0).1 (ct_3 (hE.2.2.2.2.1 k0 t0 ht0).1) rfl ?_
      refine jv_aload_n (q := 34) G 0 dX0_mayTouch_33 rfl rfl rfl ?_
      refine jv_getI (q := 37) G dX0_mayTouch_34 fl_X0_22 rfl hc.1 hc.2.2.1 rfl ?_
      refine jv_icmp_neN (q := 40) (tgt := 42) G dX0_mayTouch_37 (by decide) rfl (by omega) (by omega) (fun c4 => ?_) (fun c4 => ?_)
      · refine jv_aload_n (q := 43) G 3 dX0_mayTouch_42 rfl rfl rfl ?_
        refine jv_getI (q := 46) G dX0_mayTouch_43 fl_X0_31 rfl hb hm.2.2.2.2.1 rfl ?_
        refine jv_iconst (q := 47) (v := nI 2) G dX0_mayTouch_46 (by decide) rfl ?_
        refine jv_icmp_neN (q := 50) (tgt := 61) G dX0_mayTouch_47 (by decide) rfl (by omega) (by omega) (fun c5 => ?_) (fun c5 => ?_)
        · refine jv_null (q := 62) G dX0_mayTouch_61 rfl ?_
          refine jv_astoreR (q := 64) (lo' := [(4, va_rf none), (0, .ref c), (1, .ref (z 0 e)), (2, .ref (T (10 * e + k0))), (3, .ref b)]) (x := none) G dX0_mayTouch_62 (by decide) rfl rfl ?_
          refine jv_aloadR (q := 66) G 0 dX0_mayTouch_64 rfl rfl ?_
          refine jv_ifnull (q := 69) (tgt := 97) (x := none) G dX0_mayTouch_66 (by decide) rfl (fun c6 => ?_) (fun a7 c6 => ?_)
          · refine jv_iconst (q := 98) (v := nI 0) G dX0_mayTouch_97 (by decide) rfl ?_
            refine jv_topI (y := jv_bI false) rfl ?_
            refine jv_zret G hr dX0_mayTouch_98 (Nat.le_of_ble_eq_true rfl) (Nat.le_of_ble_eq_true rfl) ?_
            first | (refine ⟨?_, rfl⟩; unfold c_mt; simp [c1, c3, c4, c5, c6]; done) | (exfalso; omega)
          · cases c6
        · refine jv_aload_n (q := 51) G 1 dX0_mayTouch_50 rfl rfl rfl ?_
          refine jv_aload_n (q := 52) G 0 dX0_mayTouch_51 rfl rfl rfl ?_
          refine jv_getI (q := 55) G dX0_mayTouch_52 fl_X0_25 rfl hc.1 hc.2.2.2 rfl ?_
          refine jv_callV_R (q := 58) (h1 := h) (As := [.int (jv_oN su)]) (rest := []) (ce' := 0) (sl' := 0) (r := ((m_at ts (jv_oN su)).map (fun k => T (10 * e + k)))) G Z ml_X0_39 (k_named hlt hE) hE.1.1 dX0_mayTouch_55 rfl (by decide) (by decide) (by decide) (by decide) (Nat.le_of_ble_eq_true rfl) rfl rfl rfl rfl ?_
          rcases Option.eq_none_or_eq_some (m_at ts (jv_oN su)) with hk10 | ⟨k8, hk10⟩
          · refine jv_topR (y := none) (by rw [hk10]; rfl) ?_
            refine jv_goto (q := 62) G dX0_mayTouch_58 (by decide) ?_
            refine jv_astoreR (q := 64) (lo' := [(4, va_rf none), (0, .ref c), (1, .ref (z 0 e)), (2, .ref (T (10 * e + k0))), (3, .ref b)]) (x := none) G dX0_mayTouch_62 (by decide) rfl rfl ?_
            refine jv_aloadR (q := 66) G 0 dX0_mayTouch_64 rfl rfl ?_
            refine jv_ifnull (q := 69) (tgt := 97) (x := none) G dX0_mayTouch_66 (by decide) rfl (fun c11 => ?_) (fun a12 c11 => ?_)
            · refine jv_iconst (q := 98) (v := nI 0) G dX0_mayTouch_97 (by decide) rfl ?_
              refine jv_topI (y := jv_bI false) rfl ?_
              refine jv_zret G hr dX0_mayTouch_98 (Nat.le_of_ble_eq_true rfl) (Nat.le_of_ble_eq_true rfl) ?_
              first | (refine ⟨?_, rfl⟩; unfold c_mt; simp [c1, c3, c4, c5, c11, hk10]; done) | (exfalso; omega)
            · cases c11
          · refine jv_topR (y := (some (T (10 * e + k8)))) (by rw [hk10]; rfl) ?_
            obtain ⟨t9, ht9, nt9⟩ := m_at_get hk10
            have lt9 := jv_ltGet ht9
            have k10t9 : k8 < 10 := by have := hE.2.2.2.1; omega
            have Ot9 := (hE.2.2.2.2.1 k8 t9 ht9).2
            have Vt9 := (hE.2.2.2.2.1 k8 t9 ht9).1
            have Yt9 := hE.2.1 k8 k10t9
            have bt9n := Ot9.1; have bt9k := Ot9.2.1
            refine jv_goto (q := 62) G dX0_mayTouch_58 (by decide) ?_
            refine jv_astore (q := 64) (lo' := [(4, .ref (T (10 * e + k8))), (0, .ref c), (1, .ref (z 0 e)), (2, .ref (T (10 * e + k0))), (3, .ref b)]) G dX0_mayTouch_62 (by decide) rfl rfl ?_
            refine jv_aload (q := 66) G 0 dX0_mayTouch_64 rfl rfl ?_
            refine jv_ifnull (q := 69) (tgt := 97) (x := (some (T (10 * e + k8)))) G dX0_mayTouch_66 (by decide) rfl (fun c13 => ?_) (fun a14 c13 => ?_)
            · cases c13
            · refine jv_aload (q := 71) G 0 dX0_mayTouch_69 rfl rfl ?_
              refine jv_getI (q := 74) G dX0_mayTouch_71 fl_X0_45 rfl (hE.2.1 k8 k10t9).1 (ct_0 (hE.2.2.2.2.1 k8 t9 ht9).1) rfl ?_
              refine jv_aload_n (q := 75) G 3 dX0_mayTouch_74 rfl rfl rfl ?_
              refine jv_getI (q := 78) G dX0_mayTouch_75 fl_X0_45 rfl (hE.2.1 k0 k10t0).1 (ct_0 (hE.2.2.2.2.1 k0 t0 ht0).1) rfl ?_
              refine jv_icmp_eqN (q := 81) (tgt := 93) G dX0_mayTouch_78 (by decide) rfl (by omega) (by omega) (fun c15 => ?_) (fun c15 => ?_)
              · refine jv_iconst (q := 94) (v := nI 1) G dX0_mayTouch_93 (by decide) rfl ?_
                refine jv_goto (q := 98) G dX0_mayTouch_94 (by decide) ?_
                refine jv_topI (y := jv_bI true) rfl ?_
                refine jv_zret G hr dX0_mayTouch_98 (Nat.le_of_ble_eq_true rfl) (Nat.le_of_ble_eq_true rfl) ?_
                first | (refine ⟨?_, rfl⟩; unfold c_mt; simp [c1, c3, c4, c5, c13, c15, hk10, ht9]; done) | (exfalso; omega)
              · refine jv_aload (q := 83) G 0 dX0_mayTouch_81 rfl rfl ?_
                refine jv_aload_n (q := 84) G 3 dX0_mayTouch_83 rfl rfl rfl ?_
                refine jv_getI (q := 87) G dX0_mayTouch_84 fl_X0_45 rfl (hE.2.1 k0 k10t0).1 (ct_0 (hE.2.2.2.2.1 k0 t0 ht0).1) rfl ?_
                have Ut9 := hU k8 lt9
                have umt9 := um_lt Ut9.2.2
                refine jv_callV_I (q := 90) (h1 := h) (As := [.int (nI (mt_n t0))]) (rest := []) (ce' := 0) (sl' := 0) (r := jv_bI ((m_um (Us k8)).testBit (mt_n t0))) G Z ml_X0_48 (k_isUnder hlt Yt9.1 Ut9.1.2.1 umt9 bt0n) (hE.2.1 k8 k10t9).1 dX0_mayTouch_87 rfl (by decide) (by decide) (by decide) (by decide) (Nat.le_of_ble_eq_true rfl) rfl rfl rfl rfl ?_
                refine jv_if_eqB (q := 93) (tgt := 97) G dX0_mayTouch_90 (by decide) rfl (fun c16 => ?_) (fun c16 => ?_)
                · rw [um_bit] at c16
                  refine jv_iconst (q := 98) (v := nI 0) G dX0_mayTouch_97 (by decide) rfl ?_
                  refine jv_topI (y := jv_bI false) rfl ?_
                  refine jv_zret G hr dX0_mayTouch_98 (Nat.le_of_ble_eq_true rfl) (Nat.le_of_ble_eq_true rfl) ?_
                  first | (refine ⟨?_, rfl⟩; unfold c_mt; simp [c1, c3, c4, c5, c13, c15, c16, hk10, ht9]; done) | (exfalso; omega)
                · rw [um_bit] at c16
                  refine jv_iconst (q := 94) (v := nI 1) G dX0_mayTouch_93 (by decide) rfl ?_
                  refine jv_goto (q := 98) G dX0_mayTouch_94 (by decide) ?_
                  refine jv_topI (y := jv_bI true) rfl ?_
                  refine jv_zret G hr dX0_mayTouch_98 (Nat.le_of_ble_eq_true rfl) (Nat.le_of_ble_eq_true rfl) ?_
                  first | (refine ⟨?_, rfl⟩; unfold c_mt; simp [c1, c3, c4, c5, c13, c15, c16, hk10, ht9]; done) | (exfalso; omega)
      · refine jv_iconst (q := 41) (v := nI 1) G dX0_mayTouch_40 (by decide) rfl ?_
        refine jv_topI (y := jv_bI true) rfl ?_
        refine jv_zret G hr dX0_mayTouch_41 (Nat.le_of_ble_eq_true rfl) (Nat.le_of_ble_eq_true rfl) ?_
        first | (refine ⟨?_, rfl⟩; unfold c_mt; simp [c1, c3, c4]; done) | (exfalso; omega)
    · refine jv_aload_n (q := 16) G 3 dX0_mayTouch_15 rfl rfl rfl ?_
      refine jv_getI (q := 19) G dX0_mayTouch_16 fl_X0_31 rfl hb hm.2.2.2.2.1 rfl ?_
      refine jv_iconst (q := 20) (v := nI 3) G dX0_mayTouch_19 (by decide) rfl ?_
      refine jv_icmp_neN (q := 23) (tgt := 27) G dX0_mayTouch_20 (by decide) rfl (by omega) (by omega) (fun c17 => ?_) (fun c17 => ?_)
      · refine jv_iconst (q := 28) (v := nI 0) G dX0_mayTouch_27 (by decide) rfl ?_
        refine jv_topI (y := jv_bI false) rfl ?_
        refine jv_zret G hr dX0_mayTouch_28 (Nat.le_of_ble_eq_true rfl) (Nat.le_of_ble_eq_true rfl) ?_
        first | (refine ⟨?_, rfl⟩; unfold c_mt; simp [c1, c3, c17]; done) | (exfalso; omega)
      · refine jv_iconst (q := 24) (v := nI 1) G dX0_mayTouch_23 (by decide) rfl ?_
        refine jv_goto (q := 28) G dX0_mayTouch_24 (by decide) ?_
        refine jv_topI (y := jv_bI true) rfl ?_
        refine jv_zret G hr dX0_mayTouch_28 (Nat.le_of_ble_eq_true rfl) (Nat.le_of_ble_eq_true rfl) ?_
        first | (refine ⟨?_, rfl⟩; unfold c_mt; simp [c1, c3, c17]; done) | (exfalso; omega)
