/-! throws and catches -/
def jv_okT (w : Cond) : Bool := decide (w ∈ lw_tbl) && (goodWord w || jv_oword w)
theorem jv_oth_on : ∀ w ∈ jv_oth, w.onTables = true ∨ ∃ C, w = .arrayOver (.object C) := by
  intro w hw
  have h7 := (List.mem_filter.mp hw).2
  unfold jv_oword at h7
  split at h7
  · exact Or.inl rfl
  · exact Or.inl rfl
  · exact Or.inl rfl
  · exact Or.inr ⟨_, rfl⟩
  · cases h7
theorem jv_wordT {E : jv_E} {cc : ByteArray} {own : String} {nL : Nat} (G : jv_C E cc own nL) {w : Cond} (h : jv_okT w = true) : w.before (jv_a E) (jv_s E) = true := by
  simp only [jv_okT, Bool.and_eq_true, decide_eq_true_eq, Bool.or_eq_true] at h
  rcases h.2 with h2 | h2
  · exact G.2.2.2.2.1 _ (jv_in h.1 h2)
  · have hm : w ∈ jv_oth := List.mem_filter.mpr ⟨h.1, h2⟩
    have h3 := G.2.2.2.2.2.2.2.1.2.2.2.2 w hm
    rcases jv_oth_on w hm with h4 | ⟨C, rfl⟩
    · exact va_Nw.use h4 h3
    · exact va_AO.use h3
/-- what a place that throws needs of the tables -/
def jv_LT (ik ic : Nat) (cls : String) (names : List String) : Prop := Bundle.fit cls = true ∧ (∀ n ∈ names, Bundle.fit n = true) ∧ ((Cond.classLink RX7 ik cls :: Cond.initialized cls :: vx_atS RX7 ic cls names).all (fun w => jv_okT w && vx_ot w) = true)
section JVX
variable {E : jv_E} {cc : ByteArray} {own : String} {nL : Nat} {h h' : jv_H} {ce sl mc ms : Nat} {Q : State → Prop} {pc q : Nat} {lo : List (Nat × Value)} {st rest : List Value} {Φ : Option Value → jv_H → Prop} {Ψ : String → jv_H → Prop}
theorem jv_throwS (G : jv_C E cc RX7 nL) {d : Nat} (Z : jv_rm E = jv_room d mc ms) (ht : ∀ x ∈ (jv_c E).exceptionTable.toList, False) {ik is ic : Nat} {cls text : String} {names : List String} (L : jv_LT ik ic cls names) (hs : (is, text) ∈ jv_strs) (hnm : names.length ≤ 3)
    (d0 : decode cc pc = .ok (.new ik, 3)) (d3 : decode cc (pc + 3) = .ok (.dup, 1)) (d4 : decode cc (pc + 4) = .ok (.ldc is, 2)) (d6 : decode cc (pc + 6) = .ok (.invokespecial ic, 3)) (d9 : decode cc (pc + 9) = .ok (.athrow, 1))
    (hst : (st.map fun v => v.category).sum ≤ 8) (hc : ce + 1 ≤ mc) (hsl : sl + 6 ≤ ms) (hq : Ψ cls h) : jv_V E nL h ce sl (jv_Q E Φ Ψ mc ms) pc lo st := by
  intro H locs ls hR hS hl
  obtain ⟨hf, hfn, hall⟩ := L
  have hw : ∀ w ∈ (Cond.classLink RX7 ik cls :: Cond.initialized cls :: vx_atS RX7 ic cls names), jv_okT w = true ∧ vx_ot w = true := fun w hw => by
    have := List.all_eq_true.mp hall w hw
    simpa only [Bool.and_eq_true] using this
  obtain ⟨sa, hsa⟩ := G.2.2.2.2.2.2.2.1.2.2.1 _ hs
  exact vx_throwS (own := RX7) (A := fun q => jv_z E ≤ q) (sa := sa) G.1 G.2.1 G.2.2.2.2.2.2.2.2.1 G.2.2.2.1 hf hfn (jv_wordT G (hw _ List.mem_cons_self).1) (jv_wordT G (hw _ (List.mem_cons_of_mem _ List.mem_cons_self)).1) hsa (fun w h9 => jv_wordT G (hw _ (List.mem_cons_of_mem _ (List.mem_cons_of_mem _ h9))).1) (fun w h9 => (hw w h9).2) G.2.2.2.2.2.2.2.1.1 G.2.2.2.2.2.2.2.1.2.1 hS (hl.1.trans G.2.2.1.symm) d0 d3 d4 d6 d9 (fun x hx => (ht x hx).elim) (by rw [Z]; simp only [jv_room]; omega) (by rw [Z]; simp only [jv_room]; omega) (by rw [Z]; exact hc) (by rw [Z]; exact hsl) G.2.2.2.2.2.2.2.2.2
    (fun t hvm h1 h2 => ⟨h, hq, hR.kept h2, ⟨Nat.le_trans hS.1 h1, fun q h3 h4 => (h2 q (Nat.lt_of_lt_of_le h3 hS.1)).trans (hS.2.1 q h3 h4)⟩⟩) hS.2.2 hc hsl
theorem jv_throwSW (G : jv_C E cc RX7 nL) {d : Nat} (Z : jv_rm E = jv_room d mc ms) (ht : ∀ x ∈ (jv_c E).exceptionTable.toList, False) {ik is ic : Nat} {cls text : String} {names : List String} (L : jv_LT ik ic cls names) (hs : (is, text) ∈ jv_strs) (hnm : names.length ≤ 3)
    (d0 : decode cc pc = .ok (.new ik, 3)) (d3 : decode cc (pc + 3) = .ok (.dup, 1)) (d4 : decode cc (pc + 4) = .ok (.ldc_w is, 3)) (d6 : decode cc (pc + 7) = .ok (.invokespecial ic, 3)) (d9 : decode cc (pc + 10) = .ok (.athrow, 1))
    (hst : (st.map fun v => v.category).sum ≤ 8) (hc : ce + 1 ≤ mc) (hsl : sl + 6 ≤ ms) (hq : Ψ cls h) : jv_V E nL h ce sl (jv_Q E Φ Ψ mc ms) pc lo st := by
  intro H locs ls hR hS hl
  obtain ⟨hf, hfn, hall⟩ := L
  have hw : ∀ w ∈ (Cond.classLink RX7 ik cls :: Cond.initialized cls :: vx_atS RX7 ic cls names), jv_okT w = true ∧ vx_ot w = true := fun w hw => by
    have := List.all_eq_true.mp hall w hw
    simpa only [Bool.and_eq_true] using this
  obtain ⟨sa, hsa⟩ := G.2.2.2.2.2.2.2.1.2.2.1 _ hs
  exact vx_throwSW (own := RX7) (A := fun q => jv_z E ≤ q) (sa := sa) G.1 G.2.1 G.2.2.2.2.2.2.2.2.1 G.2.2.2.1 hf hfn (jv_wordT G (hw _ List.mem_cons_self).1) (jv_wordT G (hw _ (List.mem_cons_of_mem _ List.mem_cons_self)).1) hsa (fun w h9 => jv_wordT G (hw _ (List.mem_cons_of_mem _ (List.mem_cons_of_mem _ h9))).1) (fun w h9 => (hw w h9).2) G.2.2.2.2.2.2.2.1.1 G.2.2.2.2.2.2.2.1.2.1 hS (hl.1.trans G.2.2.1.symm) d0 d3 d4 d6 d9 (fun x hx => (ht x hx).elim) (by rw [Z]; simp only [jv_room]; omega) (by rw [Z]; simp only [jv_room]; omega) (by rw [Z]; exact hc) (by rw [Z]; exact hsl) G.2.2.2.2.2.2.2.2.2
    (fun t hvm h1 h2 => ⟨h, hq, hR.kept h2, ⟨Nat.le_trans hS.1 h1, fun q h3 h4 => (h2 q (Nat.lt_of_lt_of_le h3 hS.1)).trans (hS.2.1 q h3 h4)⟩⟩) hS.2.2 hc hsl
end JVX
