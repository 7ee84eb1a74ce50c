/-! the reference's constructor -/
def frn (x : Nat) (h0 h : jv_H) : Prop := ∀ a, a ≠ x → jv_sh h0 a ≠ none → jv_sh h a = jv_sh h0 a ∧ (∀ j, jv_I h a j = jv_I h0 a j) ∧ (∀ j, jv_L h a j = jv_L h0 a j) ∧ ∀ j, jv_P h a j = jv_P h0 a j
def cst (x : Nat) (h0 : jv_H) (n : Nat) (q : Nat → Nat) (h : jv_H) : Prop := jv_sh h x = some (.inl 8) ∧ (∀ k, k < n → rf_arr k = true → jv_P h x k = some (q k) ∧ jv_sh h (q k) = some (.inr (rf_ty k, rf_n k)) ∧ (∀ j, jv_I h (q k) j = 0) ∧ jv_sh h0 (q k) = none) ∧ (∀ i j, i < n → j < n → rf_arr i = true → rf_arr j = true → q i = q j → i = j) ∧ (∀ j, jv_I h x j = 0) ∧ frn x h0 h ∧ jv_sh h0 x ≠ none
theorem cst.step {x n a : Nat} {q : Nat → Nat} {h0 h : jv_H} (c : cst x h0 n q h) (hr : rf_arr n = true) (ha : jv_sh h a = none) : cst x h0 (n + 1) (fun k => if k = n then a else q k) (jv_wP (jv_new h a (.inr (rf_ty n, rf_n n))) x n (some a)) := by
  obtain ⟨c1, c2, c3, c4, c5, c6⟩ := c
  have hax : a ≠ x := fun e => by rw [e, c1] at ha; cases ha
  have ha0 : jv_sh h0 a = none := by
    cases h1 : jv_sh h0 a with
    | none => rfl
    | some s =>
      have := (c5 a hax (by rw [h1]; exact fun e => by cases e)).1
      rw [ha, h1] at this
      cases this
  refine ⟨?_, ?_, ?_, ?_, ?_, c6⟩
  · rw [jv_sh_wP, jv_sh_new, if_neg (Ne.symm hax)]; exact c1
  · intro k hk hrk
    by_cases hkn : k = n
    · subst hkn
      dsimp only
      rw [if_pos rfl]
      refine ⟨by rw [jv_P_wP, if_pos ⟨rfl, rfl⟩], by rw [jv_sh_wP, jv_sh_new, if_pos rfl], fun j => by rw [jv_I_wP, jv_I_new, if_pos rfl], ha0⟩
    · dsimp only
      rw [if_neg hkn]
      obtain ⟨d1, d2, d3, d4⟩ := c2 k (by omega) hrk
      have hne : q k ≠ a := fun e => by rw [e, ha] at d2; cases d2
      refine ⟨?_, by rw [jv_sh_wP, jv_sh_new, if_neg hne]; exact d2, fun j => by rw [jv_I_wP, jv_I_new, if_neg hne]; exact d3 j, d4⟩
      rw [jv_P_wP, if_neg (fun e => hkn e.2), jv_P_new, if_neg (Ne.symm hax)]
      exact d1
  · intro i j hi hj hri hrj e
    have hq : ∀ k, k < n → rf_arr k = true → q k ≠ a := fun k hk hrk e => by
      have := (c2 k hk hrk).2.1
      rw [e, ha] at this; cases this
    dsimp only at e
    by_cases h1 : i = n <;> by_cases h2 : j = n
    · omega
    · rw [if_pos h1, if_neg h2] at e
      exact absurd e.symm (hq j (by omega) hrj)
    · rw [if_neg h1, if_pos h2] at e
      exact absurd e (hq i (by omega) hri)
    · rw [if_neg h1, if_neg h2] at e
      exact c3 i j (by omega) (by omega) hri hrj e
  · intro j
    rw [jv_I_wP, jv_I_new, if_neg (Ne.symm hax)]
    exact c4 j
  · intro b hb h1
    have hba : b ≠ a := fun e => h1 (e ▸ ha0)
    obtain ⟨d1, d2, d3, d4⟩ := c5 b hb h1
    refine ⟨by rw [jv_sh_wP, jv_sh_new, if_neg hba]; exact d1, fun j => by rw [jv_I_wP, jv_I_new, if_neg hba]; exact d2 j, fun j => by rw [jv_L_wP, jv_L_new, if_neg hba]; exact d3 j, fun j => ?_⟩
    rw [jv_P_wP, if_neg (fun e => hb e.1), jv_P_new, if_neg hba]
    exact d4 j
theorem cst.skip {x n : Nat} {q : Nat → Nat} {h0 h : jv_H} (c : cst x h0 n q h) (hr : rf_arr n = false) : cst x h0 (n + 1) q h := by
  have hne : ∀ k, rf_arr k = true → k ≠ n := fun k hk e => by rw [e, hr] at hk; cases hk
  exact ⟨c.1, fun k hk hrk => c.2.1 k (by have := hne k hrk; omega) hrk, fun i j hi hj hri hrj => c.2.2.1 i j (by have := hne i hri; omega) (by have := hne j hrj; omega) hri hrj, c.2.2.2⟩
theorem cst.R {x : Nat} {q : Nat → Nat} {h0 h : jv_H} (c : cst x h0 42 q h) : rf_R x q h ([], []) := by
  obtain ⟨c1, c2, c3, c4, c5, c6⟩ := c
  refine ⟨⟨c1, fun k hk hr => ⟨(c2 k hk hr).1, (c2 k hk hr).2.1⟩, c3⟩, ⟨Nat.zero_le _, c4 1⟩, ⟨Nat.zero_le _, c4 21⟩, fun e he => ⟨(c2 2 (by decide) rfl).2.2.1 e, (c2 3 (by decide) rfl).2.2.1 e, Nat.zero_le _, fun k t ht => ?_⟩, fun e he hs => ?_, fun c C hC => ?_⟩
  · simp [ma_t] at ht
  · simp [ma_s] at hs
  · simp at hC
set_option maxHeartbeats 4000000 in
set_option maxRecDepth 100000 in
theorem r_init {lA : Launch} (hlt : lA.stackTraces = false) {D : jv_D} {base : Nat} {x : Nat} {h : jv_H} (hx : jv_sh h x = some (.inl 8)) (hz : ∀ j, jv_I h x j = 0) : jv_Met lA D base yX8_init (.code yX8_init cX8_init 1 none) 1 37 17026 [.ref x] h (fun v h' => v = none ∧ ∃ q, rf_R x q h' ([], []) ∧ frn x h h' ∧ ∀ k, k < 42 → rf_arr k = true → jv_sh h (q k) = none) jv_no := by
  refine jv_ofV (lo := [(0, .ref x)]) hlt (by decide) (Nat.le_of_ble_eq_true rfl) rfl (fun E hEl hEd hEz Z G hr ht hnm => ?_)
  subst hEl; subst hEd; subst hEz
  have c : cst x h 0 (fun _ => 0) h := ⟨hx, fun k hk => by omega, fun i j hi => by omega, hz, fun a h1 h2 => ⟨rfl, fun _ => rfl, fun _ => rfl, fun _ => rfl⟩, by rw [hx]; exact fun e => by cases e⟩
  refine jv_aload_n (q := 1) G 0 dX8_init_0 rfl rfl rfl ?_
  refine jv_objInit (q := 4) G dX8_init_1 oi_X8_1 (by rw [Z]; decide) (by rw [Z]; decide) (Nat.le_of_ble_eq_true rfl) rfl ?_
  refine jv_aload_n (q := 5) G 0 dX8_init_4 rfl rfl rfl ?_
  refine jv_bipush (q := 7) (v := nI 8) G dX8_init_5 (by decide) rfl ?_
  refine jv_newa (q := 9) (ty := .boolean) (N := 8) G dX8_init_7 rfl jv_ty_bool ⟨rfl, by decide, by decide⟩ ac_boolean rfl (by decide) (by rw [Z]; decide) (by rw [Z]; decide) rfl (fun q1 fq1 => ?_)
  have cx : jv_sh (jv_new h q1 (.inr (.boolean, 8))) x = some (.inl 8) := by rw [jv_sh_new, if_neg (fun e => by rw [← e, c.1] at fq1; cases fq1)]; exact c.1
  refine jv_putFQ (q := 12) G hnm dX8_init_9 fl_X8_7 (fun r h => by cases h; rfl) rfl cx rfl ?_
  have c := c.skip rfl
  have c := c.skip rfl
  have c := c.step rfl fq1
  change cst x h 3 _ (jv_wP (jv_new h q1 (.inr (.boolean, 8))) x 2 (some q1)) at c
  generalize jv_wP (jv_new h q1 (.inr (.boolean, 8))) x 2 (some q1) = h2 at c ⊢
  clear cx fq1
  refine jv_aload_n (q := 13) G 0 dX8_init_12 rfl rfl rfl ?_
  refine jv_bipush (q := 15) (v := nI 8) G dX8_init_13 (by decide) rfl ?_
  refine jv_newa (q := 17) (ty := .int) (N := 8) G dX8_init_15 rfl jv_ty_int ⟨rfl, by decide, by decide⟩ ac_int rfl (by decide) (by rw [Z]; decide) (by rw [Z]; decide) rfl (fun q3 fq3 => ?_)
  have cx : jv_sh (jv_new h2 q3 (.inr (.int, 8))) x = some (.inl 8) := by rw [jv_sh_new, if_neg (fun e => by rw [← e, c.1] at fq3; cases fq3)]; exact c.1
  refine jv_putFQ (q := 20) G hnm dX8_init_17 fl_X8_13 (fun r h => by cases h; rfl) rfl cx rfl ?_
  have c := c.step rfl fq3
  change cst x h 4 _ (jv_wP (jv_new h2 q3 (.inr (.int, 8))) x 3 (some q3)) at c
  generalize jv_wP (jv_new h2 q3 (.inr (.int, 8))) x 3 (some q3) = h4 at c ⊢
  clear cx fq3
  refine jv_aload_n (q := 21) G 0 dX8_init_20 rfl rfl rfl ?_
  refine jv_bipush (q := 23) (v := nI 80) G dX8_init_21 (by decide) rfl ?_
  refine jv_newa (q := 25) (ty := .int) (N := 80) G dX8_init_23 rfl jv_ty_int ⟨rfl, by decide, by decide⟩ ac_int rfl (by decide) (by rw [Z]; decide) (by rw [Z]; decide) rfl (fun q5 fq5 => ?_)
  have cx : jv_sh (jv_new h4 q5 (.inr (.int, 80))) x = some (.inl 8) := by rw [jv_sh_new, if_neg (fun e => by rw [← e, c.1] at fq5; cases fq5)]; exact c.1
  refine jv_putFQ (q := 28) G hnm dX8_init_25 fl_X8_17 (fun r h => by cases h; rfl) rfl cx rfl ?_
  have c := c.step rfl fq5
  change cst x h 5 _ (jv_wP (jv_new h4 q5 (.inr (.int, 80))) x 4 (some q5)) at c
  generalize jv_wP (jv_new h4 q5 (.inr (.int, 80))) x 4 (some q5) = h6 at c ⊢
  clear cx fq5
  refine jv_aload_n (q := 29) G 0 dX8_init_28 rfl rfl rfl ?_
  refine jv_bipush (q := 31) (v := nI 80) G dX8_init_29 (by decide) rfl ?_
  refine jv_newa (q := 33) (ty := .boolean) (N := 80) G dX8_init_31 rfl jv_ty_bool ⟨rfl, by decide, by decide⟩ ac_boolean rfl (by decide) (by rw [Z]; decide) (by rw [Z]; decide) rfl (fun q7 fq7 => ?_)
  have cx : jv_sh (jv_new h6 q7 (.inr (.boolean, 80))) x = some (.inl 8) := by rw [jv_sh_new, if_neg (fun e => by rw [← e, c.1] at fq7; cases fq7)]; exact c.1
  refine jv_putFQ (q := 36) G hnm dX8_init_33 fl_X8_20 (fun r h => by cases h; rfl) rfl cx rfl ?_
  have c := c.step rfl fq7
  change cst x h 6 _ (jv_wP (jv_new h6 q7 (.inr (.boolean, 80))) x 5 (some q7)) at c
  generalize jv_wP (jv_new h6 q7 (.inr (.boolean, 80))) x 5 (some q7) = h8 at c ⊢
  clear cx fq7
  refine jv_aload_n (q := 37) G 0 dX8_init_36 rfl rfl rfl ?_
  refine jv_bipush (q := 39) (v := nI 80) G dX8_init_37 (by decide) rfl ?_
  refine jv_newa (q := 41) (ty := .boolean) (N := 80) G dX8_init_39 rfl jv_ty_bool ⟨rfl, by decide, by decide⟩ ac_boolean rfl (by decide) (by rw [Z]; decide) (by rw [Z]; decide) rfl (fun q9 fq9 => ?_)
  have cx : jv_sh (jv_new h8 q9 (.inr (.boolean, 80))) x = some (.inl 8) := by rw [jv_sh_new, if_neg (fun e => by rw [← e, c.1] at fq9; cases fq9)]; exact c.1
  refine jv_putFQ (q := 44) G hnm dX8_init_41 fl_X8_23 (fun r h => by cases h; rfl) rfl cx rfl ?_
  have c := c.step rfl fq9
  change cst x h 7 _ (jv_wP (jv_new h8 q9 (.inr (.boolean, 80))) x 6 (some q9)) at c
  generalize jv_wP (jv_new h8 q9 (.inr (.boolean, 80))) x 6 (some q9) = h10 at c ⊢
  clear cx fq9
  refine jv_aload_n (q := 45) G 0 dX8_init_44 rfl rfl rfl ?_
  refine jv_bipush (q := 47) (v := nI 80) G dX8_init_45 (by decide) rfl ?_
  refine jv_newa (q := 49) (ty := .int) (N := 80) G dX8_init_47 rfl jv_ty_int ⟨rfl, by decide, by decide⟩ ac_int rfl (by decide) (by rw [Z]; decide) (by rw [Z]; decide) rfl (fun q11 fq11 => ?_)
  have cx : jv_sh (jv_new h10 q11 (.inr (.int, 80))) x = some (.inl 8) := by rw [jv_sh_new, if_neg (fun e => by rw [← e, c.1] at fq11; cases fq11)]; exact c.1
  refine jv_putFQ (q := 52) G hnm dX8_init_49 fl_X8_26 (fun r h => by cases h; rfl) rfl cx rfl ?_
  have c := c.step rfl fq11
  change cst x h 8 _ (jv_wP (jv_new h10 q11 (.inr (.int, 80))) x 7 (some q11)) at c
  generalize jv_wP (jv_new h10 q11 (.inr (.int, 80))) x 7 (some q11) = h12 at c ⊢
  clear cx fq11
  refine jv_aload_n (q := 53) G 0 dX8_init_52 rfl rfl rfl ?_
  refine jv_bipush (q := 55) (v := nI 80) G dX8_init_53 (by decide) rfl ?_
  refine jv_newa (q := 57) (ty := .boolean) (N := 80) G dX8_init_55 rfl jv_ty_bool ⟨rfl, by decide, by decide⟩ ac_boolean rfl (by decide) (by rw [Z]; decide) (by rw [Z]; decide) rfl (fun q13 fq13 => ?_)
  have cx : jv_sh (jv_new h12 q13 (.inr (.boolean, 80))) x = some (.inl 8) := by rw [jv_sh_new, if_neg (fun e => by rw [← e, c.1] at fq13; cases fq13)]; exact c.1
  refine jv_putFQ (q := 60) G hnm dX8_init_57 fl_X8_29 (fun r h => by cases h; rfl) rfl cx rfl ?_
  have c := c.step rfl fq13
  change cst x h 9 _ (jv_wP (jv_new h12 q13 (.inr (.boolean, 80))) x 8 (some q13)) at c
  generalize jv_wP (jv_new h12 q13 (.inr (.boolean, 80))) x 8 (some q13) = h14 at c ⊢
  clear cx fq13
  refine jv_aload_n (q := 61) G 0 dX8_init_60 rfl rfl rfl ?_
  refine jv_bipush (q := 63) (v := nI 80) G dX8_init_61 (by decide) rfl ?_
  refine jv_newa (q := 65) (ty := .int) (N := 80) G dX8_init_63 rfl jv_ty_int ⟨rfl, by decide, by decide⟩ ac_int rfl (by decide) (by rw [Z]; decide) (by rw [Z]; decide) rfl (fun q15 fq15 => ?_)
  have cx : jv_sh (jv_new h14 q15 (.inr (.int, 80))) x = some (.inl 8) := by rw [jv_sh_new, if_neg (fun e => by rw [← e, c.1] at fq15; cases fq15)]; exact c.1
  refine jv_putFQ (q := 68) G hnm dX8_init_65 fl_X8_32 (fun r h => by cases h; rfl) rfl cx rfl ?_
  have c := c.step rfl fq15
  change cst x h 10 _ (jv_wP (jv_new h14 q15 (.inr (.int, 80))) x 9 (some q15)) at c
  generalize jv_wP (jv_new h14 q15 (.inr (.int, 80))) x 9 (some q15) = h16 at c ⊢
  clear cx fq15
  refine jv_aload_n (q := 69) G 0 dX8_init_68 rfl rfl rfl ?_
  refine jv_bipush (q := 71) (v := nI 80) G dX8_init_69 (by decide) rfl ?_
  refine jv_newa (q := 73) (ty := .int) (N := 80) G dX8_init_71 rfl jv_ty_int ⟨rfl, by decide, by decide⟩ ac_int rfl (by decide) (by rw [Z]; decide) (by rw [Z]; decide) rfl (fun q17 fq17 => ?_)
  have cx : jv_sh (jv_new h16 q17 (.inr (.int, 80))) x = some (.inl 8) := by rw [jv_sh_new, if_neg (fun e => by rw [← e, c.1] at fq17; cases fq17)]; exact c.1
  refine jv_putFQ (q := 76) G hnm dX8_init_73 fl_X8_35 (fun r h => by cases h; rfl) rfl cx rfl ?_
  have c := c.step rfl fq17
  change cst x h 11 _ (jv_wP (jv_new h16 q17 (.inr (.int, 80))) x 10 (some q17)) at c
  generalize jv_wP (jv_new h16 q17 (.inr (.int, 80))) x 10 (some q17) = h18 at c ⊢
  clear cx fq17
  refine jv_aload_n (q := 77) G 0 dX8_init_76 rfl rfl rfl ?_
  refine jv_sipush (q := 80) (v := nI 240) G dX8_init_77 (by decide) rfl ?_
  refine jv_newa (q := 82) (ty := .int) (N := 240) G dX8_init_80 rfl jv_ty_int ⟨rfl, by decide, by decide⟩ ac_int rfl (by decide) (by rw [Z]; decide) (by rw [Z]; decide) rfl (fun q19 fq19 => ?_)
  have cx : jv_sh (jv_new h18 q19 (.inr (.int, 240))) x = some (.inl 8) := by rw [jv_sh_new, if_neg (fun e => by rw [← e, c.1] at fq19; cases fq19)]; exact c.1
  refine jv_putFQ (q := 85) G hnm dX8_init_82 fl_X8_38 (fun r h => by cases h; rfl) rfl cx rfl ?_
  have c := c.step rfl fq19
  change cst x h 12 _ (jv_wP (jv_new h18 q19 (.inr (.int, 240))) x 11 (some q19)) at c
  generalize jv_wP (jv_new h18 q19 (.inr (.int, 240))) x 11 (some q19) = h20 at c ⊢
  clear cx fq19
  refine jv_aload_n (q := 86) G 0 dX8_init_85 rfl rfl rfl ?_
  refine jv_bipush (q := 88) (v := nI 80) G dX8_init_86 (by decide) rfl ?_
  refine jv_newa (q := 90) (ty := .int) (N := 80) G dX8_init_88 rfl jv_ty_int ⟨rfl, by decide, by decide⟩ ac_int rfl (by decide) (by rw [Z]; decide) (by rw [Z]; decide) rfl (fun q21 fq21 => ?_)
  have cx : jv_sh (jv_new h20 q21 (.inr (.int, 80))) x = some (.inl 8) := by rw [jv_sh_new, if_neg (fun e => by rw [← e, c.1] at fq21; cases fq21)]; exact c.1
  refine jv_putFQ (q := 93) G hnm dX8_init_90 fl_X8_41 (fun r h => by cases h; rfl) rfl cx rfl ?_
  have c := c.step rfl fq21
  change cst x h 13 _ (jv_wP (jv_new h20 q21 (.inr (.int, 80))) x 12 (some q21)) at c
  generalize jv_wP (jv_new h20 q21 (.inr (.int, 80))) x 12 (some q21) = h22 at c ⊢
  clear cx fq21
  refine jv_aload_n (q := 94) G 0 dX8_init_93 rfl rfl rfl ?_
  refine jv_sipush (q := 97) (v := nI 480) G dX8_init_94 (by decide) rfl ?_
  refine jv_newa (q := 99) (ty := .int) (N := 480) G dX8_init_97 rfl jv_ty_int ⟨rfl, by decide, by decide⟩ ac_int rfl (by decide) (by rw [Z]; decide) (by rw [Z]; decide) rfl (fun q23 fq23 => ?_)
  have cx : jv_sh (jv_new h22 q23 (.inr (.int, 480))) x = some (.inl 8) := by rw [jv_sh_new, if_neg (fun e => by rw [← e, c.1] at fq23; cases fq23)]; exact c.1
  refine jv_putFQ (q := 102) G hnm dX8_init_99 fl_X8_44 (fun r h => by cases h; rfl) rfl cx rfl ?_
  have c := c.step rfl fq23
  change cst x h 14 _ (jv_wP (jv_new h22 q23 (.inr (.int, 480))) x 13 (some q23)) at c
  generalize jv_wP (jv_new h22 q23 (.inr (.int, 480))) x 13 (some q23) = h24 at c ⊢
  clear cx fq23
  refine jv_aload_n (q := 103) G 0 dX8_init_102 rfl rfl rfl ?_
  refine jv_sipush (q := 106) (v := nI 480) G dX8_init_103 (by decide) rfl ?_
  refine jv_newa (q := 108) (ty := .int) (N := 480) G dX8_init_106 rfl jv_ty_int ⟨rfl, by decide, by decide⟩ ac_int rfl (by decide) (by rw [Z]; decide) (by rw [Z]; decide) rfl (fun q25 fq25 => ?_)
  have cx : jv_sh (jv_new h24 q25 (.inr (.int, 480))) x = some (.inl 8) := by rw [jv_sh_new, if_neg (fun e => by rw [← e, c.1] at fq25; cases fq25)]; exact c.1
  refine jv_putFQ (q := 111) G hnm dX8_init_108 fl_X8_47 (fun r h => by cases h; rfl) rfl cx rfl ?_
  have c := c.step rfl fq25
  change cst x h 15 _ (jv_wP (jv_new h24 q25 (.inr (.int, 480))) x 14 (some q25)) at c
  generalize jv_wP (jv_new h24 q25 (.inr (.int, 480))) x 14 (some q25) = h26 at c ⊢
  clear cx fq25
  refine jv_aload_n (q := 112) G 0 dX8_init_111 rfl rfl rfl ?_
  refine jv_sipush (q := 115) (v := nI 480) G dX8_init_112 (by decide) rfl ?_
  refine jv_newa (q := 117) (ty := .int) (N := 480) G dX8_init_115 rfl jv_ty_int ⟨rfl, by decide, by decide⟩ ac_int rfl (by decide) (by rw [Z]; decide) (by rw [Z]; decide) rfl (fun q27 fq27 => ?_)
  have cx : jv_sh (jv_new h26 q27 (.inr (.int, 480))) x = some (.inl 8) := by rw [jv_sh_new, if_neg (fun e => by rw [← e, c.1] at fq27; cases fq27)]; exact c.1
  refine jv_putFQ (q := 120) G hnm dX8_init_117 fl_X8_50 (fun r h => by cases h; rfl) rfl cx rfl ?_
  have c := c.step rfl fq27
  change cst x h 16 _ (jv_wP (jv_new h26 q27 (.inr (.int, 480))) x 15 (some q27)) at c
  generalize jv_wP (jv_new h26 q27 (.inr (.int, 480))) x 15 (some q27) = h28 at c ⊢
  clear cx fq27
  refine jv_aload_n (q := 121) G 0 dX8_init_120 rfl rfl rfl ?_
  refine jv_sipush (q := 124) (v := nI 480) G dX8_init_121 (by decide) rfl ?_
  refine jv_newa (q := 126) (ty := .int) (N := 480) G dX8_init_124 rfl jv_ty_int ⟨rfl, by decide, by decide⟩ ac_int rfl (by decide) (by rw [Z]; decide) (by rw [Z]; decide) rfl (fun q29 fq29 => ?_)
  have cx : jv_sh (jv_new h28 q29 (.inr (.int, 480))) x = some (.inl 8) := by rw [jv_sh_new, if_neg (fun e => by rw [← e, c.1] at fq29; cases fq29)]; exact c.1
  refine jv_putFQ (q := 129) G hnm dX8_init_126 fl_X8_53 (fun r h => by cases h; rfl) rfl cx rfl ?_
  have c := c.step rfl fq29
  change cst x h 17 _ (jv_wP (jv_new h28 q29 (.inr (.int, 480))) x 16 (some q29)) at c
  generalize jv_wP (jv_new h28 q29 (.inr (.int, 480))) x 16 (some q29) = h30 at c ⊢
  clear cx fq29
  refine jv_aload_n (q := 130) G 0 dX8_init_129 rfl rfl rfl ?_
  refine jv_sipush (q := 133) (v := nI 480) G dX8_init_130 (by decide) rfl ?_
  refine jv_newa (q := 135) (ty := .boolean) (N := 480) G dX8_init_133 rfl jv_ty_bool ⟨rfl, by decide, by decide⟩ ac_boolean rfl (by decide) (by rw [Z]; decide) (by rw [Z]; decide) rfl (fun q31 fq31 => ?_)
  have cx : jv_sh (jv_new h30 q31 (.inr (.boolean, 480))) x = some (.inl 8) := by rw [jv_sh_new, if_neg (fun e => by rw [← e, c.1] at fq31; cases fq31)]; exact c.1
  refine jv_putFQ (q := 138) G hnm dX8_init_135 fl_X8_56 (fun r h => by cases h; rfl) rfl cx rfl ?_
  have c := c.step rfl fq31
  change cst x h 18 _ (jv_wP (jv_new h30 q31 (.inr (.boolean, 480))) x 17 (some q31)) at c
  generalize jv_wP (jv_new h30 q31 (.inr (.boolean, 480))) x 17 (some q31) = h32 at c ⊢
  clear cx fq31
  refine jv_aload_n (q := 139) G 0 dX8_init_138 rfl rfl rfl ?_
  refine jv_sipush (q := 142) (v := nI 480) G dX8_init_139 (by decide) rfl ?_
  refine jv_newa (q := 144) (ty := .int) (N := 480) G dX8_init_142 rfl jv_ty_int ⟨rfl, by decide, by decide⟩ ac_int rfl (by decide) (by rw [Z]; decide) (by rw [Z]; decide) rfl (fun q33 fq33 => ?_)
  have cx : jv_sh (jv_new h32 q33 (.inr (.int, 480))) x = some (.inl 8) := by rw [jv_sh_new, if_neg (fun e => by rw [← e, c.1] at fq33; cases fq33)]; exact c.1
  refine jv_putFQ (q := 147) G hnm dX8_init_144 fl_X8_59 (fun r h => by cases h; rfl) rfl cx rfl ?_
  have c := c.step rfl fq33
  change cst x h 19 _ (jv_wP (jv_new h32 q33 (.inr (.int, 480))) x 18 (some q33)) at c
  generalize jv_wP (jv_new h32 q33 (.inr (.int, 480))) x 18 (some q33) = h34 at c ⊢
  clear cx fq33
  refine jv_aload_n (q := 148) G 0 dX8_init_147 rfl rfl rfl ?_
  refine jv_sipush (q := 151) (v := nI 480) G dX8_init_148 (by decide) rfl ?_
  refine jv_newa (q := 153) (ty := .boolean) (N := 480) G dX8_init_151 rfl jv_ty_bool ⟨rfl, by decide, by decide⟩ ac_boolean rfl (by decide) (by rw [Z]; decide) (by rw [Z]; decide) rfl (fun q35 fq35 => ?_)
  have cx : jv_sh (jv_new h34 q35 (.inr (.boolean, 480))) x = some (.inl 8) := by rw [jv_sh_new, if_neg (fun e => by rw [← e, c.1] at fq35; cases fq35)]; exact c.1
  refine jv_putFQ (q := 156) G hnm dX8_init_153 fl_X8_62 (fun r h => by cases h; rfl) rfl cx rfl ?_
  have c := c.step rfl fq35
  change cst x h 20 _ (jv_wP (jv_new h34 q35 (.inr (.boolean, 480))) x 19 (some q35)) at c
  generalize jv_wP (jv_new h34 q35 (.inr (.boolean, 480))) x 19 (some q35) = h36 at c ⊢
  clear cx fq35
  refine jv_aload_n (q := 157) G 0 dX8_init_156 rfl rfl rfl ?_
  refine jv_sipush (q := 160) (v := nI 2048) G dX8_init_157 (by decide) rfl ?_
  refine jv_newa (q := 162) (ty := .boolean) (N := 2048) G dX8_init_160 rfl jv_ty_bool ⟨rfl, by decide, by decide⟩ ac_boolean rfl (by decide) (by rw [Z]; decide) (by rw [Z]; decide) rfl (fun q37 fq37 => ?_)
  have cx : jv_sh (jv_new h36 q37 (.inr (.boolean, 2048))) x = some (.inl 8) := by rw [jv_sh_new, if_neg (fun e => by rw [← e, c.1] at fq37; cases fq37)]; exact c.1
  refine jv_putFQ (q := 165) G hnm dX8_init_162 fl_X8_65 (fun r h => by cases h; rfl) rfl cx rfl ?_
  have c := c.step rfl fq37
  change cst x h 21 _ (jv_wP (jv_new h36 q37 (.inr (.boolean, 2048))) x 20 (some q37)) at c
  generalize jv_wP (jv_new h36 q37 (.inr (.boolean, 2048))) x 20 (some q37) = h38 at c ⊢
  clear cx fq37
  refine jv_aload_n (q := 166) G 0 dX8_init_165 rfl rfl rfl ?_
  refine jv_bipush (q := 168) (v := nI 13) G dX8_init_166 (by decide) rfl ?_
  refine jv_newa (q := 170) (ty := .int) (N := 13) G dX8_init_168 rfl jv_ty_int ⟨rfl, by decide, by decide⟩ ac_int rfl (by decide) (by rw [Z]; decide) (by rw [Z]; decide) rfl (fun q39 fq39 => ?_)
  have cx : jv_sh (jv_new h38 q39 (.inr (.int, 13))) x = some (.inl 8) := by rw [jv_sh_new, if_neg (fun e => by rw [← e, c.1] at fq39; cases fq39)]; exact c.1
  refine jv_putFQ (q := 173) G hnm dX8_init_170 fl_X8_68 (fun r h => by cases h; rfl) rfl cx rfl ?_
  have c := c.skip rfl
  have c := c.step rfl fq39
  change cst x h 23 _ (jv_wP (jv_new h38 q39 (.inr (.int, 13))) x 22 (some q39)) at c
  generalize jv_wP (jv_new h38 q39 (.inr (.int, 13))) x 22 (some q39) = h40 at c ⊢
  clear cx fq39
  refine jv_aload_n (q := 174) G 0 dX8_init_173 rfl rfl rfl ?_
  refine jv_bipush (q := 176) (v := nI 13) G dX8_init_174 (by decide) rfl ?_
  refine jv_newa (q := 178) (ty := .int) (N := 13) G dX8_init_176 rfl jv_ty_int ⟨rfl, by decide, by decide⟩ ac_int rfl (by decide) (by rw [Z]; decide) (by rw [Z]; decide) rfl (fun q41 fq41 => ?_)
  have cx : jv_sh (jv_new h40 q41 (.inr (.int, 13))) x = some (.inl 8) := by rw [jv_sh_new, if_neg (fun e => by rw [← e, c.1] at fq41; cases fq41)]; exact c.1
  refine jv_putFQ (q := 181) G hnm dX8_init_178 fl_X8_71 (fun r h => by cases h; rfl) rfl cx rfl ?_
  have c := c.step rfl fq41
  change cst x h 24 _ (jv_wP (jv_new h40 q41 (.inr (.int, 13))) x 23 (some q41)) at c
  generalize jv_wP (jv_new h40 q41 (.inr (.int, 13))) x 23 (some q41) = h42 at c ⊢
  clear cx fq41
  refine jv_aload_n (q := 182) G 0 dX8_init_181 rfl rfl rfl ?_
  refine jv_bipush (q := 184) (v := nI 13) G dX8_init_182 (by decide) rfl ?_
  refine jv_newa (q := 186) (ty := .int) (N := 13) G dX8_init_184 rfl jv_ty_int ⟨rfl, by decide, by decide⟩ ac_int rfl (by decide) (by rw [Z]; decide) (by rw [Z]; decide) rfl (fun q43 fq43 => ?_)
  have cx : jv_sh (jv_new h42 q43 (.inr (.int, 13))) x = some (.inl 8) := by rw [jv_sh_new, if_neg (fun e => by rw [← e, c.1] at fq43; cases fq43)]; exact c.1
  refine jv_putFQ (q := 189) G hnm dX8_init_186 fl_X8_74 (fun r h => by cases h; rfl) rfl cx rfl ?_
  have c := c.step rfl fq43
  change cst x h 25 _ (jv_wP (jv_new h42 q43 (.inr (.int, 13))) x 24 (some q43)) at c
  generalize jv_wP (jv_new h42 q43 (.inr (.int, 13))) x 24 (some q43) = h44 at c ⊢
  clear cx fq43
  refine jv_aload_n (q := 190) G 0 dX8_init_189 rfl rfl rfl ?_
  refine jv_bipush (q := 192) (v := nI 13) G dX8_init_190 (by decide) rfl ?_
  refine jv_newa (q := 194) (ty := .int) (N := 13) G dX8_init_192 rfl jv_ty_int ⟨rfl, by decide, by decide⟩ ac_int rfl (by decide) (by rw [Z]; decide) (by rw [Z]; decide) rfl (fun q45 fq45 => ?_)
  have cx : jv_sh (jv_new h44 q45 (.inr (.int, 13))) x = some (.inl 8) := by rw [jv_sh_new, if_neg (fun e => by rw [← e, c.1] at fq45; cases fq45)]; exact c.1
  refine jv_putFQ (q := 197) G hnm dX8_init_194 fl_X8_77 (fun r h => by cases h; rfl) rfl cx rfl ?_
  have c := c.step rfl fq45
  change cst x h 26 _ (jv_wP (jv_new h44 q45 (.inr (.int, 13))) x 25 (some q45)) at c
  generalize jv_wP (jv_new h44 q45 (.inr (.int, 13))) x 25 (some q45) = h46 at c ⊢
  clear cx fq45
  refine jv_aload_n (q := 198) G 0 dX8_init_197 rfl rfl rfl ?_
  refine jv_sipush (q := 201) (v := nI 260) G dX8_init_198 (by decide) rfl ?_
  refine jv_newa (q := 203) (ty := .int) (N := 260) G dX8_init_201 rfl jv_ty_int ⟨rfl, by decide, by decide⟩ ac_int rfl (by decide) (by rw [Z]; decide) (by rw [Z]; decide) rfl (fun q47 fq47 => ?_)
  have cx : jv_sh (jv_new h46 q47 (.inr (.int, 260))) x = some (.inl 8) := by rw [jv_sh_new, if_neg (fun e => by rw [← e, c.1] at fq47; cases fq47)]; exact c.1
  refine jv_putFQ (q := 206) G hnm dX8_init_203 fl_X8_80 (fun r h => by cases h; rfl) rfl cx rfl ?_
  have c := c.step rfl fq47
  change cst x h 27 _ (jv_wP (jv_new h46 q47 (.inr (.int, 260))) x 26 (some q47)) at c
  generalize jv_wP (jv_new h46 q47 (.inr (.int, 260))) x 26 (some q47) = h48 at c ⊢
  clear cx fq47
  refine jv_aload_n (q := 207) G 0 dX8_init_206 rfl rfl rfl ?_
  refine jv_sipush (q := 210) (v := nI 260) G dX8_init_207 (by decide) rfl ?_
  refine jv_newa (q := 212) (ty := .int) (N := 260) G dX8_init_210 rfl jv_ty_int ⟨rfl, by decide, by decide⟩ ac_int rfl (by decide) (by rw [Z]; decide) (by rw [Z]; decide) rfl (fun q49 fq49 => ?_)
  have cx : jv_sh (jv_new h48 q49 (.inr (.int, 260))) x = some (.inl 8) := by rw [jv_sh_new, if_neg (fun e => by rw [← e, c.1] at fq49; cases fq49)]; exact c.1
  refine jv_putFQ (q := 215) G hnm dX8_init_212 fl_X8_83 (fun r h => by cases h; rfl) rfl cx rfl ?_
  have c := c.step rfl fq49
  change cst x h 28 _ (jv_wP (jv_new h48 q49 (.inr (.int, 260))) x 27 (some q49)) at c
  generalize jv_wP (jv_new h48 q49 (.inr (.int, 260))) x 27 (some q49) = h50 at c ⊢
  clear cx fq49
  refine jv_aload_n (q := 216) G 0 dX8_init_215 rfl rfl rfl ?_
  refine jv_sipush (q := 219) (v := nI 260) G dX8_init_216 (by decide) rfl ?_
  refine jv_newa (q := 221) (ty := .int) (N := 260) G dX8_init_219 rfl jv_ty_int ⟨rfl, by decide, by decide⟩ ac_int rfl (by decide) (by rw [Z]; decide) (by rw [Z]; decide) rfl (fun q51 fq51 => ?_)
  have cx : jv_sh (jv_new h50 q51 (.inr (.int, 260))) x = some (.inl 8) := by rw [jv_sh_new, if_neg (fun e => by rw [← e, c.1] at fq51; cases fq51)]; exact c.1
  refine jv_putFQ (q := 224) G hnm dX8_init_221 fl_X8_86 (fun r h => by cases h; rfl) rfl cx rfl ?_
  have c := c.step rfl fq51
  change cst x h 29 _ (jv_wP (jv_new h50 q51 (.inr (.int, 260))) x 28 (some q51)) at c
  generalize jv_wP (jv_new h50 q51 (.inr (.int, 260))) x 28 (some q51) = h52 at c ⊢
  clear cx fq51
  refine jv_aload_n (q := 225) G 0 dX8_init_224 rfl rfl rfl ?_
  refine jv_sipush (q := 228) (v := nI 260) G dX8_init_225 (by decide) rfl ?_
  refine jv_newa (q := 230) (ty := .int) (N := 260) G dX8_init_228 rfl jv_ty_int ⟨rfl, by decide, by decide⟩ ac_int rfl (by decide) (by rw [Z]; decide) (by rw [Z]; decide) rfl (fun q53 fq53 => ?_)
  have cx : jv_sh (jv_new h52 q53 (.inr (.int, 260))) x = some (.inl 8) := by rw [jv_sh_new, if_neg (fun e => by rw [← e, c.1] at fq53; cases fq53)]; exact c.1
  refine jv_putFQ (q := 233) G hnm dX8_init_230 fl_X8_89 (fun r h => by cases h; rfl) rfl cx rfl ?_
  have c := c.step rfl fq53
  change cst x h 30 _ (jv_wP (jv_new h52 q53 (.inr (.int, 260))) x 29 (some q53)) at c
  generalize jv_wP (jv_new h52 q53 (.inr (.int, 260))) x 29 (some q53) = h54 at c ⊢
  clear cx fq53
  refine jv_aload_n (q := 234) G 0 dX8_init_233 rfl rfl rfl ?_
  refine jv_sipush (q := 237) (v := nI 260) G dX8_init_234 (by decide) rfl ?_
  refine jv_newa (q := 239) (ty := .int) (N := 260) G dX8_init_237 rfl jv_ty_int ⟨rfl, by decide, by decide⟩ ac_int rfl (by decide) (by rw [Z]; decide) (by rw [Z]; decide) rfl (fun q55 fq55 => ?_)
  have cx : jv_sh (jv_new h54 q55 (.inr (.int, 260))) x = some (.inl 8) := by rw [jv_sh_new, if_neg (fun e => by rw [← e, c.1] at fq55; cases fq55)]; exact c.1
  refine jv_putFQ (q := 242) G hnm dX8_init_239 fl_X8_92 (fun r h => by cases h; rfl) rfl cx rfl ?_
  have c := c.step rfl fq55
  change cst x h 31 _ (jv_wP (jv_new h54 q55 (.inr (.int, 260))) x 30 (some q55)) at c
  generalize jv_wP (jv_new h54 q55 (.inr (.int, 260))) x 30 (some q55) = h56 at c ⊢
  clear cx fq55
  refine jv_aload_n (q := 243) G 0 dX8_init_242 rfl rfl rfl ?_
  refine jv_bipush (q := 245) (v := nI 10) G dX8_init_243 (by decide) rfl ?_
  refine jv_newa (q := 247) (ty := .boolean) (N := 10) G dX8_init_245 rfl jv_ty_bool ⟨rfl, by decide, by decide⟩ ac_boolean rfl (by decide) (by rw [Z]; decide) (by rw [Z]; decide) rfl (fun q57 fq57 => ?_)
  have cx : jv_sh (jv_new h56 q57 (.inr (.boolean, 10))) x = some (.inl 8) := by rw [jv_sh_new, if_neg (fun e => by rw [← e, c.1] at fq57; cases fq57)]; exact c.1
  refine jv_putFQ (q := 250) G hnm dX8_init_247 fl_X8_95 (fun r h => by cases h; rfl) rfl cx rfl ?_
  have c := c.step rfl fq57
  change cst x h 32 _ (jv_wP (jv_new h56 q57 (.inr (.boolean, 10))) x 31 (some q57)) at c
  generalize jv_wP (jv_new h56 q57 (.inr (.boolean, 10))) x 31 (some q57) = h58 at c ⊢
  clear cx fq57
  refine jv_aload_n (q := 251) G 0 dX8_init_250 rfl rfl rfl ?_
  refine jv_sipush (q := 254) (v := nI 1400) G dX8_init_251 (by decide) rfl ?_
  refine jv_newa (q := 256) (ty := .int) (N := 1400) G dX8_init_254 rfl jv_ty_int ⟨rfl, by decide, by decide⟩ ac_int rfl (by decide) (by rw [Z]; decide) (by rw [Z]; decide) rfl (fun q59 fq59 => ?_)
  have cx : jv_sh (jv_new h58 q59 (.inr (.int, 1400))) x = some (.inl 8) := by rw [jv_sh_new, if_neg (fun e => by rw [← e, c.1] at fq59; cases fq59)]; exact c.1
  refine jv_putFQ (q := 259) G hnm dX8_init_256 fl_X8_98 (fun r h => by cases h; rfl) rfl cx rfl ?_
  have c := c.skip rfl
  have c := c.skip rfl
  have c := c.step rfl fq59
  change cst x h 35 _ (jv_wP (jv_new h58 q59 (.inr (.int, 1400))) x 34 (some q59)) at c
  generalize jv_wP (jv_new h58 q59 (.inr (.int, 1400))) x 34 (some q59) = h60 at c ⊢
  clear cx fq59
  refine jv_aload_n (q := 260) G 0 dX8_init_259 rfl rfl rfl ?_
  refine jv_sipush (q := 263) (v := nI 1400) G dX8_init_260 (by decide) rfl ?_
  refine jv_newa (q := 265) (ty := .int) (N := 1400) G dX8_init_263 rfl jv_ty_int ⟨rfl, by decide, by decide⟩ ac_int rfl (by decide) (by rw [Z]; decide) (by rw [Z]; decide) rfl (fun q61 fq61 => ?_)
  have cx : jv_sh (jv_new h60 q61 (.inr (.int, 1400))) x = some (.inl 8) := by rw [jv_sh_new, if_neg (fun e => by rw [← e, c.1] at fq61; cases fq61)]; exact c.1
  refine jv_putFQ (q := 268) G hnm dX8_init_265 fl_X8_101 (fun r h => by cases h; rfl) rfl cx rfl ?_
  have c := c.step rfl fq61
  change cst x h 36 _ (jv_wP (jv_new h60 q61 (.inr (.int, 1400))) x 35 (some q61)) at c
  generalize jv_wP (jv_new h60 q61 (.inr (.int, 1400))) x 35 (some q61) = h62 at c ⊢
  clear cx fq61
  refine jv_aload_n (q := 269) G 0 dX8_init_268 rfl rfl rfl ?_
  refine jv_sipush (q := 272) (v := nI 1400) G dX8_init_269 (by decide) rfl ?_
  refine jv_newa (q := 274) (ty := .int) (N := 1400) G dX8_init_272 rfl jv_ty_int ⟨rfl, by decide, by decide⟩ ac_int rfl (by decide) (by rw [Z]; decide) (by rw [Z]; decide) rfl (fun q63 fq63 => ?_)
  have cx : jv_sh (jv_new h62 q63 (.inr (.int, 1400))) x = some (.inl 8) := by rw [jv_sh_new, if_neg (fun e => by rw [← e, c.1] at fq63; cases fq63)]; exact c.1
  refine jv_putFQ (q := 277) G hnm dX8_init_274 fl_X8_104 (fun r h => by cases h; rfl) rfl cx rfl ?_
  have c := c.step rfl fq63
  change cst x h 37 _ (jv_wP (jv_new h62 q63 (.inr (.int, 1400))) x 36 (some q63)) at c
  generalize jv_wP (jv_new h62 q63 (.inr (.int, 1400))) x 36 (some q63) = h64 at c ⊢
  clear cx fq63
  refine jv_aload_n (q := 278) G 0 dX8_init_277 rfl rfl rfl ?_
  refine jv_sipush (q := 281) (v := nI 1400) G dX8_init_278 (by decide) rfl ?_
  refine jv_newa (q := 283) (ty := .int) (N := 1400) G dX8_init_281 rfl jv_ty_int ⟨rfl, by decide, by decide⟩ ac_int rfl (by decide) (by rw [Z]; decide) (by rw [Z]; decide) rfl (fun q65 fq65 => ?_)
  have cx : jv_sh (jv_new h64 q65 (.inr (.int, 1400))) x = some (.inl 8) := by rw [jv_sh_new, if_neg (fun e => by rw [← e, c.1] at fq65; cases fq65)]; exact c.1
  refine jv_putFQ (q := 286) G hnm dX8_init_283 fl_X8_107 (fun r h => by cases h; rfl) rfl cx rfl ?_
  have c := c.step rfl fq65
  change cst x h 38 _ (jv_wP (jv_new h64 q65 (.inr (.int, 1400))) x 37 (some q65)) at c
  generalize jv_wP (jv_new h64 q65 (.inr (.int, 1400))) x 37 (some q65) = h66 at c ⊢
  clear cx fq65
  refine jv_aload_n (q := 287) G 0 dX8_init_286 rfl rfl rfl ?_
  refine jv_sipush (q := 290) (v := nI 1400) G dX8_init_287 (by decide) rfl ?_
  refine jv_newa (q := 292) (ty := .int) (N := 1400) G dX8_init_290 rfl jv_ty_int ⟨rfl, by decide, by decide⟩ ac_int rfl (by decide) (by rw [Z]; decide) (by rw [Z]; decide) rfl (fun q67 fq67 => ?_)
  have cx : jv_sh (jv_new h66 q67 (.inr (.int, 1400))) x = some (.inl 8) := by rw [jv_sh_new, if_neg (fun e => by rw [← e, c.1] at fq67; cases fq67)]; exact c.1
  refine jv_putFQ (q := 295) G hnm dX8_init_292 fl_X8_110 (fun r h => by cases h; rfl) rfl cx rfl ?_
  have c := c.step rfl fq67
  change cst x h 39 _ (jv_wP (jv_new h66 q67 (.inr (.int, 1400))) x 38 (some q67)) at c
  generalize jv_wP (jv_new h66 q67 (.inr (.int, 1400))) x 38 (some q67) = h68 at c ⊢
  clear cx fq67
  refine jv_aload_n (q := 296) G 0 dX8_init_295 rfl rfl rfl ?_
  refine jv_sipush (q := 299) (v := nI 1400) G dX8_init_296 (by decide) rfl ?_
  refine jv_newa (q := 301) (ty := .int) (N := 1400) G dX8_init_299 rfl jv_ty_int ⟨rfl, by decide, by decide⟩ ac_int rfl (by decide) (by rw [Z]; decide) (by rw [Z]; decide) rfl (fun q69 fq69 => ?_)
  have cx : jv_sh (jv_new h68 q69 (.inr (.int, 1400))) x = some (.inl 8) := by rw [jv_sh_new, if_neg (fun e => by rw [← e, c.1] at fq69; cases fq69)]; exact c.1
  refine jv_putFQ (q := 304) G hnm dX8_init_301 fl_X8_113 (fun r h => by cases h; rfl) rfl cx rfl ?_
  have c := c.step rfl fq69
  change cst x h 40 _ (jv_wP (jv_new h68 q69 (.inr (.int, 1400))) x 39 (some q69)) at c
  generalize jv_wP (jv_new h68 q69 (.inr (.int, 1400))) x 39 (some q69) = h70 at c ⊢
  clear cx fq69
  refine jv_aload_n (q := 305) G 0 dX8_init_304 rfl rfl rfl ?_
  refine jv_sipush (q := 308) (v := nI 480) G dX8_init_305 (by decide) rfl ?_
  refine jv_newa (q := 310) (ty := .boolean) (N := 480) G dX8_init_308 rfl jv_ty_bool ⟨rfl, by decide, by decide⟩ ac_boolean rfl (by decide) (by rw [Z]; decide) (by rw [Z]; decide) rfl (fun q71 fq71 => ?_)
  have cx : jv_sh (jv_new h70 q71 (.inr (.boolean, 480))) x = some (.inl 8) := by rw [jv_sh_new, if_neg (fun e => by rw [← e, c.1] at fq71; cases fq71)]; exact c.1
  refine jv_putFQ (q := 313) G hnm dX8_init_310 fl_X8_116 (fun r h => by cases h; rfl) rfl cx rfl ?_
  have c := c.step rfl fq71
  change cst x h 41 _ (jv_wP (jv_new h70 q71 (.inr (.boolean, 480))) x 40 (some q71)) at c
  generalize jv_wP (jv_new h70 q71 (.inr (.boolean, 480))) x 40 (some q71) = h72 at c ⊢
  clear cx fq71
  refine jv_aload_n (q := 314) G 0 dX8_init_313 rfl rfl rfl ?_
  refine jv_sipush (q := 317) (v := nI 480) G dX8_init_314 (by decide) rfl ?_
  refine jv_newa (q := 319) (ty := .int) (N := 480) G dX8_init_317 rfl jv_ty_int ⟨rfl, by decide, by decide⟩ ac_int rfl (by decide) (by rw [Z]; decide) (by rw [Z]; decide) rfl (fun q73 fq73 => ?_)
  have cx : jv_sh (jv_new h72 q73 (.inr (.int, 480))) x = some (.inl 8) := by rw [jv_sh_new, if_neg (fun e => by rw [← e, c.1] at fq73; cases fq73)]; exact c.1
  refine jv_putFQ (q := 322) G hnm dX8_init_319 fl_X8_119 (fun r h => by cases h; rfl) rfl cx rfl ?_
  have c := c.step rfl fq73
  change cst x h 42 _ (jv_wP (jv_new h72 q73 (.inr (.int, 480))) x 41 (some q73)) at c
  generalize jv_wP (jv_new h72 q73 (.inr (.int, 480))) x 41 (some q73) = h74 at c ⊢
  clear cx fq73
  refine jv_vret G hr dX8_init_322 (Nat.le_of_ble_eq_true rfl) (Nat.le_of_ble_eq_true rfl) ?_
  exact ⟨rfl, _, c.R, c.2.2.2.2.1, fun k hk hr => (c.2.1 k hk hr).2.2.2⟩
