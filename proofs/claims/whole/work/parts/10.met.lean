/-! CONTRACTS -/
def jv_room (d mc ms : Nat) : Room := { frames := d + 8, cells := mc, slots := ms, locals := 64 * d + 128 }
def jv_B (D : jv_D) (base : Nat) (h : jv_H) (U : State) : Prop := jv_R D base h U.heap ∧ jv_K D U ∧ base ≤ U.heap.size ∧ jv_X base U U.heap
def jv_Qc (D : jv_D) (base : Nat) (Φ : Option Value → jv_H → Prop) : Array Value → State → Outcome → State → Prop := fun _ st o t => ∃ (v : Option Value) (h' : jv_H), o = .returned v ∧ Φ v h' ∧ jv_R D base h' t.heap ∧ va_F (fun q => base ≤ q) st t
def jv_Xc (D : jv_D) (base : Nat) (Ψ : String → jv_H → Prop) : String → State → State → Prop := fun c st t => ∃ h' : jv_H, Ψ c h' ∧ jv_R D base h' t.heap ∧ va_F (fun q => base ≤ q) st t
/-- y, called with As over the heap h: it returns with Φ, or it throws an exception of a class with Ψ -/
def jv_Met (l : Launch) (D : jv_D) (base : Nat) (y : MethodName) (cd : Cond) (d mc ms : Nat) (As : List Value) (h : jv_H) (Φ : Option Value → jv_H → Prop) (Ψ : String → jv_H → Prop) : Prop :=
  vx_Met l y (cd :: jv_TB) (jv_room d mc ms) (va_Pc As (jv_B D base h)) (jv_Qc D base Φ) (jv_Xc D base Ψ) mc ms (fun q => base ≤ q)
def jv_Q (E : jv_E) (Φ : Option Value → jv_H → Prop) (Ψ : String → jv_H → Prop) (mc ms : Nat) : State → Prop := vx_MQ (jv_b E) (jv_Qc (jv_d E) (jv_z E) Φ) (jv_Xc (jv_d E) (jv_z E) Ψ) (jv_a E) (jv_s E) mc ms (fun q => jv_z E ≤ q)
def jv_no : String → jv_H → Prop := fun _ _ => False
theorem jv_Met.mono {l : Launch} {D : jv_D} {base : Nat} {y : MethodName} {cd : Cond} {d mc ms : Nat} {As : List Value} {h : jv_H} {Φ Φ' : Option Value → jv_H → Prop} {Ψ Ψ' : String → jv_H → Prop} (M : jv_Met l D base y cd d mc ms As h Φ Ψ) (h1 : ∀ v h', Φ v h' → Φ' v h') (h2 : ∀ c h', Ψ c h' → Ψ' c h') : jv_Met l D base y cd d mc ms As h Φ' Ψ' := by
  intro p e ha hc hk s m args below hf happ hP hK
  obtain ⟨n, o, q1, q2, q3, q4⟩ := M p e ha hc hk s m args below hf happ hP hK
  refine ⟨n, o, q1, q2, q3, ?_⟩
  rcases q4 with ⟨⟨v, h', e1, e2, e3⟩, e4⟩ | ⟨q, e0, c, ce, L, ⟨h', e2, e3⟩, e4⟩
  · exact Or.inl ⟨⟨v, h', e1, h1 _ _ e2, e3⟩, e4⟩
  · exact Or.inr ⟨q, e0, c, ce, L, ⟨h', h2 _ _ e2, e3⟩, e4⟩
theorem jv_Met.met {l : Launch} {D : jv_D} {base : Nat} {y : MethodName} {cd : Cond} {d mc ms : Nat} {As : List Value} {h : jv_H} {Φ : Option Value → jv_H → Prop} (M : jv_Met l D base y cd d mc ms As h Φ jv_no) : Met l y (cd :: jv_TB) (jv_room d mc ms) (va_Pc As (jv_B D base h)) (jv_Qc D base Φ) mc ms (fun q => base ≤ q) := by
  intro p e ha hc hk s m args below hf happ hP hK
  obtain ⟨n, o, q1, q2, q3, q4⟩ := M p e ha hc hk s m args below hf happ hP hK
  refine ⟨n, o, q1, q2, q3, ?_⟩
  rcases q4 with q4 | ⟨q, e0, c, ce, L, ⟨h', e2, e3⟩, e4⟩
  · exact q4
  · exact e2.elim
theorem jv_blind {D : jv_D} {base : Nat} {As : List Value} {h : jv_H} : FrameBlind (va_Pc As (jv_B D base h)) := by
  intro a U g mk q
  obtain ⟨e, h1, h2, h3, h4⟩ := q
  exact ⟨e, h1, jv_K.moved (u := U) (U := U.calling g mk a) (Vm.Alike.refl U.vm) h2, h3, jv_X.warm (s := U) (U := U.calling g mk a) (State.WarmedH.refl U) h4⟩
/-- a contract out of a walk -/
theorem jv_ofV {l : Launch} {D : jv_D} {base : Nat} {y : MethodName} {cc : ByteArray} {maxL : Nat} {ret : Option FieldType} {d mc ms : Nat} {As : List Value} {h : jv_H} {Φ : Option Value → jv_H → Prop} {Ψ : String → jv_H → Prop} {lo : List (Nat × Value)}
    (hl : l.stackTraces = false) (hy : plainName y.cls = true) (hA : (lg_sl As).length ≤ maxL) (hlo : lv_args 0 As = lo)
    (body : ∀ E : jv_E, jv_l E = l → jv_d E = D → jv_z E = base → jv_rm E = jv_room d mc ms → jv_C E cc y.cls maxL → (jv_mt E).sig.returnType = ret → (∀ x ∈ (jv_c E).exceptionTable.toList, False) → (jv_mt E).name = y.name → jv_V E maxL h 0 0 (jv_Q E Φ Ψ mc ms) 0 lo []) :
    jv_Met l D base y (.code y cc maxL ret) d mc ms As h Φ Ψ := by
  refine vx_ofW (cc := cc) (maxL := maxL) (ret := ret) hy rfl ?_
  intro p e s m args below meth c s₁ B hml ht hv
  obtain ⟨rfl, hR, hK, hz, hX⟩ := hv
  have hts : ∀ w ∈ (Cond.code y cc maxL ret :: jv_TB), w.before As.toArray s = true := atoms_spec (ws := Cond.code y cc maxL ret :: jv_TB) B.pre
  have hown : s.vm.findClass y.cls = some m.cls := findClass_of_methodNamed B.named
  have hC : jv_C (p, l, e, jv_room d mc ms, s, m, As.toArray, below, meth, c, D, base) cc y.cls maxL := ⟨B.exec, B.bytes, hml, hown, fun w hw => hts w (List.mem_cons_of_mem _ hw), hK, hz, hX, hl, B.notSynchronized⟩
  have hV := body (p, l, e, jv_room d mc ms, s, m, As.toArray, below, meth, c, D, base) rfl rfl rfl rfl hC B.returns ht (name_of_methodNamed B.named B.method).1
  have hl0 := lv_entry As (n := maxL) hA
  rw [lg_entry_eq]
  generalize (lg_sl As ++ List.replicate (maxL - (lg_sl As).length) Slot.unset).toArray = ls at hl0 ⊢
  rw [hlo] at hl0
  exact hV s.heap [] ls hR va_S.rf hl0
section JVC
variable {E : jv_E} {cc : ByteArray} {own : String} {nL : Nat} {h h' : jv_H} {ce sl mc ms : Nat} {Q : State → Prop} {pc q : Nat} {lo : List (Nat × Value)} {st rest : List Value} {Φ : Option Value → jv_H → Prop} {Ψ : String → jv_H → Prop}
-- ends
theorem jv_iret (G : jv_C E cc own nL) (hr : (jv_mt E).sig.returnType = some .int) {v : Int32} (hd : decode cc pc = .ok (.ireturn, 1)) (hc : ce ≤ mc) (hs : sl ≤ ms) (hq : Φ (some (.int v)) h) : jv_V E nL h ce sl (jv_Q E Φ Ψ mc ms) pc lo [.int v] := fun H locs ls hR hS hl =>
  W.widen hc hs (vx_ret (W.iret G.1 G.2.1 hr (fun t ht hW => ⟨_, h, rfl, hq, by rw [ht]; exact hR, hS.F ht⟩) hS.2.2 hd G.2.2.2.2.2.2.2.2.2))
theorem jv_zret (G : jv_C E cc own nL) (hr : (jv_mt E).sig.returnType = some .boolean) {b : Bool} (hd : decode cc pc = .ok (.ireturn, 1)) (hc : ce ≤ mc) (hs : sl ≤ ms) (hq : Φ (some (.int (jv_bI b))) h) : jv_V E nL h ce sl (jv_Q E Φ Ψ mc ms) pc lo [.int (jv_bI b)] := fun H locs ls hR hS hl =>
  W.widen hc hs (vx_ret (W.zret G.1 G.2.1 hr (by cases b <;> decide +kernel) (fun t ht hW => ⟨_, h, rfl, hq, by rw [ht]; exact hR, hS.F ht⟩) hS.2.2 hd G.2.2.2.2.2.2.2.2.2))
theorem jv_lret (G : jv_C E cc own nL) (hr : (jv_mt E).sig.returnType = some .long) {v : Int64} (hd : decode cc pc = .ok (.lreturn, 1)) (hc : ce ≤ mc) (hs : sl ≤ ms) (hq : Φ (some (.long v)) h) : jv_V E nL h ce sl (jv_Q E Φ Ψ mc ms) pc lo [.long v] := fun H locs ls hR hS hl =>
  W.widen hc hs (vx_ret (W.lret G.1 G.2.1 hr (fun t ht hW => ⟨_, h, rfl, hq, by rw [ht]; exact hR, hS.F ht⟩) hS.2.2 hd G.2.2.2.2.2.2.2.2.2))
theorem jv_vret (G : jv_C E cc own nL) (hr : (jv_mt E).sig.returnType = none) (hd : decode cc pc = .ok (.return_, 1)) (hc : ce ≤ mc) (hs : sl ≤ ms) (hq : Φ none h) : jv_V E nL h ce sl (jv_Q E Φ Ψ mc ms) pc lo [] := fun H locs ls hR hS hl =>
  W.widen hc hs (vx_ret (W.vret G.1 G.2.1 hr (fun t ht hW => ⟨_, h, rfl, hq, by rw [ht]; exact hR, hS.F ht⟩) hS.2.2 hd G.2.2.2.2.2.2.2.2.2))
theorem jv_aret (G : jv_C E cc own nL) {C : String} (hr : (jv_mt E).sig.returnType = some (.object C)) {x : Option Nat} (hd : decode cc pc = .ok (.areturn, 1)) (hc : ce ≤ mc) (hs : sl ≤ ms) (hq : Φ (some (va_rf x)) h) : jv_V E nL h ce sl (jv_Q E Φ Ψ mc ms) pc lo [va_rf x] := fun H locs ls hR hS hl =>
  W.widen hc hs (vx_ret (W.aret G.1 G.2.1 hr (Or.inl ⟨C, rfl⟩) (va_rf_or x) (fun t ht hW => ⟨_, h, rfl, hq, by rw [ht]; exact hR, hS.F ht⟩) hS.2.2 hd G.2.2.2.2.2.2.2.2.2))
theorem jv_aretQ (G : jv_C E cc own nL) {C : String} (hr : (jv_mt E).sig.returnType = some (.object C)) {x : Nat} (hd : decode cc pc = .ok (.areturn, 1)) (hc : ce ≤ mc) (hs : sl ≤ ms) (hq : Φ (some (.ref x)) h) : jv_V E nL h ce sl (jv_Q E Φ Ψ mc ms) pc lo [.ref x] := jv_aret (x := some x) G hr hd hc hs hq
theorem jv_aretN (G : jv_C E cc own nL) {C : String} (hr : (jv_mt E).sig.returnType = some (.object C)) (hd : decode cc pc = .ok (.areturn, 1)) (hc : ce ≤ mc) (hs : sl ≤ ms) (hq : Φ (some .null) h) : jv_V E nL h ce sl (jv_Q E Φ Ψ mc ms) pc lo [.null] := jv_aret (x := none) G hr hd hc hs hq
/-- an exception of the class c over the frame at pc -/
def jv_T (E : jv_E) (nL : Nat) (h : jv_H) (cells slots : Nat) (Q : State → Prop) (pc : Nat) (lo : List (Nat × Value)) (st : List Value) (c : String) : Prop :=
  ∀ (H : Heap) (locs : List Loc) (ls : Array Slot) (cel : Cell) (a : Addr), jv_R (jv_d E) (jv_z E) h H → va_S (fun q => jv_z E ≤ q) (jv_s E).heap H locs → lv_has ls nL lo → H[a]? = some cel → cel.vm = .none → (jv_s E).vm.findClass c = some cel.cls → vx_W (jv_p E) (jv_l E) (jv_e E) (jv_rm E) (jv_s E) (jv_m E) (jv_a E) (jv_b E) (jv_mt E) (jv_c E) H locs cells slots Q (F0 (jv_m E) pc ls st) a
/-- it leaves the method -/
theorem jv_out (G : jv_C E cc own nL) (ht : ∀ x ∈ (jv_c E).exceptionTable.toList, False) {c : String} (hc : ce ≤ mc) (hs : sl ≤ ms) (hq : Ψ c h) : jv_T E nL h ce sl (jv_Q E Φ Ψ mc ms) pc lo st c := fun H locs ls cel a hR hS hl h1 h2 h3 =>
  vx_out (fun x hx => (ht x hx).elim) G.2.2.2.2.2.2.2.2.2 h1 h2 h3 (fun t e1 e2 => ⟨h, hq, by rw [e1]; exact hR, hS.F e1⟩) hS.2.2 hc hs
theorem jv_pre (G : jv_C E cc own nL) {H : Heap} {locs : List Loc} (hR : jv_R (jv_d E) (jv_z E) h H) (hS : va_S (fun q => jv_z E ≤ q) (jv_s E).heap H locs) (As : List Value) : PreS (jv_s E) H (va_Pc As (jv_B (jv_d E) (jv_z E) h)) As :=
  ⟨jv_blind, fun U hU hW => ⟨rfl, by rw [hU]; exact hR, jv_K.moved hW.alike G.2.2.2.2.2.1, by rw [hU]; exact Nat.le_trans G.2.2.2.2.2.2.1 hS.1, by rw [hU]; exact (G.2.2.2.2.2.2.2.1.kept hS.2.1).warm hW⟩⟩
theorem jv_fix (G : jv_C E cc own nL) : CallFix (jv_p E) (jv_m E) (jv_c E) cc nL (jv_s E) (jv_a E) jv_TB own := ⟨G.1, G.2.1, G.2.2.1, G.2.2.2.1, G.2.2.2.2.1⟩
theorem jv_goodTB {cd : Cond} {l : List Cond} (h : ∀ w ∈ l, w ∈ jv_TB) (hc : cd ∈ jv_TB) : GoodIn jv_TB (l ++ (cd :: jv_TB)) := by
  intro w hw
  have : w ∈ jv_TB := by
    rcases List.mem_append.mp hw with h1 | h1
    · exact h w h1
    · rcases List.mem_cons.mp h1 with h2 | h2
      · rw [h2]; exact hc
      · exact h2
  exact ⟨this, jv_TB_good w this⟩
/-- both ends of a call that may throw -/
theorem jv_both {mc' ms' : Nat} {Φ' : Option Value → jv_H → Prop} {Ψ' : String → jv_H → Prop} {a : Array Value} {H : Heap} {locs : List Loc} {ls : Array Slot}
    (run : vx_Run (jv_p E) (jv_l E) (jv_e E) (jv_rm E) (jv_s E) (jv_m E) (jv_a E) (jv_b E) (jv_mt E) (jv_c E) H locs ce sl mc' ms' (F0 (jv_m E) pc ls st) rest (jv_Qc (jv_d E) (jv_z E) Φ' a) (jv_Xc (jv_d E) (jv_z E) Ψ') (fun q => jv_z E ≤ q))
    (hS : va_S (fun q => jv_z E ≤ q) (jv_s E).heap H locs) (hl : lv_has ls nL lo) (kr : ∀ v h', Φ' v h' → jv_V E nL h' (ce + mc') (sl + ms') Q (pc + 3) lo (v.toList ++ rest)) (kx : ∀ (c : String) (h' : jv_H), Ψ' c h' → jv_T E nL h' (ce + mc') (sl + ms') Q pc lo rest c) :
    jv_W E H locs ce sl Q (F0 (jv_m E) pc ls st) := by
  intro T hT X
  rcases run T hT X with ⟨v, st₀, t, T', L, h0, X', hL, e1, e2, ⟨v', h2, hv, hΦ, hR', hF⟩, go⟩ | ⟨q9, st₀, t, T', L, c, cel, h0, X', hL, e1, e2, ⟨h2, hΨ, hR', hF⟩, hce, hcv, hcl, go⟩
  · cases hv
    obtain ⟨k1, k2, k3⟩ := vx_keep h0 e1 hS (fun _ _ z => z) (fun _ z => z) hL hF
    obtain ⟨t2, a1, b1⟩ := kr v h2 hΦ T'.heap (locs ++ L) ls (by rw [e1]; exact hR') k3 hl T' rfl X'
    exact ⟨t2, go t2 a1, b1⟩
  · obtain ⟨k1, k2, k3⟩ := vx_keep h0 e1 hS (fun _ _ z => z) (fun _ z => z) hL hF
    obtain ⟨t2, a1, b1⟩ := kx c h2 hΨ T'.heap (locs ++ L) ls cel q9 (by rw [e1]; exact hR') k3 hl (by rw [e1]; exact hce) hcv hcl T' rfl X'
    exact ⟨t2, go.trans a1, b1⟩
theorem jv_one {mc' ms' : Nat} {Φ' : Option Value → jv_H → Prop} {a : Array Value} {H : Heap} {locs : List Loc} {ls : Array Slot}
    (run : va_Run (jv_p E) (jv_l E) (jv_e E) (jv_rm E) (jv_s E) (jv_m E) (jv_a E) (jv_b E) (jv_mt E) (jv_c E) H locs ce sl mc' ms' (F0 (jv_m E) pc ls st) rest (jv_Qc (jv_d E) (jv_z E) Φ' a) (fun q => jv_z E ≤ q))
    (hS : va_S (fun q => jv_z E ≤ q) (jv_s E).heap H locs) (hl : lv_has ls nL lo) (kr : ∀ v h', Φ' v h' → jv_V E nL h' (ce + mc') (sl + ms') Q (pc + 3) lo (v.toList ++ rest)) :
    jv_W E H locs ce sl Q (F0 (jv_m E) pc ls st) := by
  intro T hT X
  obtain ⟨v, st₀, t, T', L, h0, X', hL, e1, e2, ⟨v', h2, hv, hΦ, hR', hF⟩, go⟩ := run T hT X
  cases hv
  obtain ⟨k1, k2, k3⟩ := vx_keep h0 e1 hS (fun _ _ z => z) (fun _ z => z) hL hF
  obtain ⟨t2, a1, b1⟩ := kr v h2 hΦ T'.heap (locs ++ L) ls (by rw [e1]; exact hR') k3 hl T' rfl X'
  exact ⟨t2, go t2 a1, b1⟩
/-- the links of a call: of a method of an object; of a static one; of a constructor; of a nest mate's -/
def jv_LV (own : String) (idx : Nat) (y : MethodName) (cd : Cond) (ci n : Nat) : Prop := (∃ (T : u_T) (N : Nat), vwCl[ci]? = some (y.cls, T, N)) ∧ (∀ w ∈ ([.methodLink own idx y, .instanceMethod y, .selects y.cls y y, .initialized y.cls] : List Cond), w ∈ jv_TB) ∧ cd ∈ jv_TB ∧ y.cls ≠ "java/lang/invoke/MethodHandle" ∧ y.cls ≠ "java/lang/invoke/VarHandle" ∧ (parseMethodDescriptor y.desc).map (fun d => d.parameters.length) = some n
def jv_LS (own : String) (idx : Nat) (y : MethodName) (cd : Cond) (n : Nat) : Prop := (∀ w ∈ ([.methodLink own idx y, .static y, .initialized y.cls] : List Cond), w ∈ jv_TB) ∧ cd ∈ jv_TB ∧ y.cls ≠ "java/lang/invoke/MethodHandle" ∧ y.cls ≠ "java/lang/invoke/VarHandle" ∧ (parseMethodDescriptor y.desc).map (fun d => d.parameters.length) = some n
def jv_LI (own : String) (idx : Nat) (y : MethodName) (cd : Cond) (n : Nat) : Prop := y.name = "<init>" ∧ (∀ w ∈ ([.methodLink own idx y, .instanceMethod y, .initialized y.cls] : List Cond), w ∈ jv_TB) ∧ cd ∈ jv_TB ∧ y.cls ≠ "java/lang/invoke/MethodHandle" ∧ y.cls ≠ "java/lang/invoke/VarHandle" ∧ (parseMethodDescriptor y.desc).map (fun d => d.parameters.length) = some n
def jv_LN (own : String) (idx : Nat) (y : MethodName) (cd : Cond) (n : Nat) : Prop := (∃ host, Cond.methodLinkNest own idx y host ∈ jv_oth) ∧ (∀ w ∈ ([.initialized y.cls] : List Cond), w ∈ jv_TB) ∧ cd ∈ jv_TB ∧ y.cls ≠ "java/lang/invoke/MethodHandle" ∧ y.cls ≠ "java/lang/invoke/VarHandle" ∧ (parseMethodDescriptor y.desc).map (fun d => d.parameters.length) = some n
theorem jv_callV (G : jv_C E cc own nL) {d mc ms : Nat} (Z : jv_rm E = jv_room d mc ms) {y : MethodName} {bytes : ByteArray} {maxL ci n d' mc' ms' idx a : Nat} {ret : Option FieldType} {As : List Value} {Φ' : Option Value → jv_H → Prop} {Ψ' : String → jv_H → Prop}
    (L : jv_LV own idx y (.code y bytes maxL ret) ci n) (M : jv_Met (jv_l E) (jv_d E) (jv_z E) y (.code y bytes maxL ret) d' mc' ms' (.ref a :: As) h Φ' Ψ') (ha : jv_sh h a = some (.inl ci)) (hd : decode cc pc = .ok (.invokevirtual idx, 3)) (hn : As.length = n) (hdd : d' < d) (hmx : maxL ≤ 45) (hcc : ce + mc' ≤ mc) (hss : sl + ms' ≤ ms) (hst : (rest.map fun v => v.category).sum ≤ 8) (hs : st = As.reverse ++ .ref a :: rest) (hp : pc + 3 = q)
    (kr : ∀ v h', Φ' v h' → jv_V E nL h' (ce + mc') (sl + ms') Q q lo (v.toList ++ rest)) (kx : ∀ (c : String) (h' : jv_H), Ψ' c h' → jv_T E nL h' (ce + mc') (sl + ms') Q pc lo rest c) : jv_V E nL h ce sl Q pc lo st := by
  subst hp
  intro H locs ls hR hS hl
  obtain ⟨⟨T, N, hci⟩, hws, hcd, hy1, hy2, hpn⟩ := L
  obtain ⟨r', hr', cell, q1, q2, q3, q4⟩ := (hR a _ ha).2
  have hPre := jv_pre G hR hS (.ref a :: As)
  refine jv_both (vx_runV (jv_fix G) M (cwV n G.2.2.2.2.1 (jv_goodTB hws hcd) rfl rfl rfl ⟨rfl, hy1, hy2, hpn⟩ (by rw [Z]; exact ⟨by simp only [jv_room]; omega, by simp only [jv_room]; omega⟩)) ⟨hPre.1, ⟨cell, q1, by rw [q3]; rfl, by rw [q2]; exact (G.2.2.2.2.2.1.1 ci _ hci).2.1⟩, hPre.2⟩ rfl hn hl.1 hs (lv_room hst) hd (by rw [Z]; exact ⟨hcc, hss⟩)) hS hl kr kx
theorem jv_callS (G : jv_C E cc own nL) {d mc ms : Nat} (Z : jv_rm E = jv_room d mc ms) {y : MethodName} {bytes : ByteArray} {maxL n d' mc' ms' idx : Nat} {ret : Option FieldType} {As : List Value} {Φ' : Option Value → jv_H → Prop} {Ψ' : String → jv_H → Prop}
    (L : jv_LS own idx y (.code y bytes maxL ret) n) (M : jv_Met (jv_l E) (jv_d E) (jv_z E) y (.code y bytes maxL ret) d' mc' ms' As h Φ' Ψ') (hd : decode cc pc = .ok (.invokestatic idx, 3)) (hn : As.length = n) (hdd : d' < d) (hmx : maxL ≤ 45) (hcc : ce + mc' ≤ mc) (hss : sl + ms' ≤ ms) (hst : (rest.map fun v => v.category).sum ≤ 8) (hs : st = As.reverse ++ rest) (hp : pc + 3 = q)
    (kr : ∀ v h', Φ' v h' → jv_V E nL h' (ce + mc') (sl + ms') Q q lo (v.toList ++ rest)) (kx : ∀ (c : String) (h' : jv_H), Ψ' c h' → jv_T E nL h' (ce + mc') (sl + ms') Q pc lo rest c) : jv_V E nL h ce sl Q pc lo st := by
  subst hp
  intro H locs ls hR hS hl
  obtain ⟨hws, hcd, hy1, hy2, hpn⟩ := L
  refine jv_both (vx_runS (jv_fix G) M (va_cwS n G.2.2.2.2.1 (jv_goodTB hws hcd) rfl rfl rfl ⟨hy1, hy2, hpn⟩ (by rw [Z]; exact ⟨by simp only [jv_room]; omega, by simp only [jv_room]; omega⟩)) (jv_pre G hR hS As) rfl hn hl.1 hs (lv_room hst) hd (by rw [Z]; exact ⟨hcc, hss⟩)) hS hl kr kx
theorem jv_callI (G : jv_C E cc own nL) {d mc ms : Nat} (Z : jv_rm E = jv_room d mc ms) {y : MethodName} {bytes : ByteArray} {maxL n d' mc' ms' idx a : Nat} {As : List Value} {Φ' : Option Value → jv_H → Prop}
    (L : jv_LI own idx y (.code y bytes maxL none) n) (M : jv_Met (jv_l E) (jv_d E) (jv_z E) y (.code y bytes maxL none) d' mc' ms' (.ref a :: As) h Φ' jv_no) (hd : decode cc pc = .ok (.invokespecial idx, 3)) (hn : As.length = n) (hdd : d' < d) (hmx : maxL ≤ 45) (hcc : ce + mc' ≤ mc) (hss : sl + ms' ≤ ms) (hst : (rest.map fun v => v.category).sum ≤ 8) (hs : st = As.reverse ++ .ref a :: rest) (hp : pc + 3 = q)
    (kr : ∀ v h', Φ' v h' → jv_V E nL h' (ce + mc') (sl + ms') Q q lo (v.toList ++ rest)) : jv_V E nL h ce sl Q pc lo st := by
  subst hp
  intro H locs ls hR hS hl
  obtain ⟨hnm, hws, hcd, hy1, hy2, hpn⟩ := L
  have hts := G.2.2.2.2.1
  refine jv_one (va_runI (jv_fix G) M.met (cwI n hts (jv_goodTB (l := []) (fun w hw => by cases hw) hcd) rfl rfl rfl (hts _ (hws _ (by simp))) (hts _ (hws _ (by simp))) (hts _ (hws _ (by simp))) hnm ⟨hy1, hy2, hpn⟩ (by rw [Z]; exact ⟨by simp only [jv_room]; omega, by simp only [jv_room]; omega⟩)) (jv_pre G hR hS (.ref a :: As)) rfl hn hl.1 hs (lv_room hst) hd (by rw [Z]; exact ⟨hcc, hss⟩)) hS hl kr
theorem jv_callIN (G : jv_C E cc own nL) {d mc ms : Nat} (Z : jv_rm E = jv_room d mc ms) {y : MethodName} {bytes : ByteArray} {maxL n d' mc' ms' idx a : Nat} {As : List Value} {Φ' : Option Value → jv_H → Prop}
    (L : jv_LN own idx y (.code y bytes maxL none) n) (hnm : y.name = "<init>") (hw : Cond.instanceMethod y ∈ jv_TB) (M : jv_Met (jv_l E) (jv_d E) (jv_z E) y (.code y bytes maxL none) d' mc' ms' (.ref a :: As) h Φ' jv_no) (hd : decode cc pc = .ok (.invokespecial idx, 3)) (hn : As.length = n) (hdd : d' < d) (hmx : maxL ≤ 45) (hcc : ce + mc' ≤ mc) (hss : sl + ms' ≤ ms) (hst : (rest.map fun v => v.category).sum ≤ 8) (hs : st = As.reverse ++ .ref a :: rest) (hp : pc + 3 = q)
    (kr : ∀ v h', Φ' v h' → jv_V E nL h' (ce + mc') (sl + ms') Q q lo (v.toList ++ rest)) : jv_V E nL h ce sl Q pc lo st := by
  subst hp
  intro H locs ls hR hS hl
  obtain ⟨⟨host, hlk⟩, hws, hcd, hy1, hy2, hpn⟩ := L
  have hts := G.2.2.2.2.1
  refine jv_one (va_runIN (host := host) (jv_fix G) M.met ⟨va_cnB n hts (jv_goodTB (l := []) (fun w hw => by cases hw) hcd) rfl rfl rfl (G.2.2.2.2.2.2.2.1.2.2.2.2 _ hlk) (hts _ (hws _ (by simp))) ⟨hy1, hy2, hpn⟩ (by rw [Z]; exact ⟨by simp only [jv_room]; omega, by simp only [jv_room]; omega⟩), hnm, hts _ hw⟩ (jv_pre G hR hS (.ref a :: As)) rfl hn hl.1 hs (lv_room hst) hd (by rw [Z]; exact ⟨hcc, hss⟩)) hS hl kr
theorem jv_callSN (G : jv_C E cc own nL) {d mc ms : Nat} (Z : jv_rm E = jv_room d mc ms) {y : MethodName} {bytes : ByteArray} {maxL n d' mc' ms' idx : Nat} {ret : Option FieldType} {As : List Value} {Φ' : Option Value → jv_H → Prop}
    (L : jv_LN own idx y (.code y bytes maxL ret) n) (hw : Cond.static y ∈ jv_TB) (M : jv_Met (jv_l E) (jv_d E) (jv_z E) y (.code y bytes maxL ret) d' mc' ms' As h Φ' jv_no) (hd : decode cc pc = .ok (.invokestatic idx, 3)) (hn : As.length = n) (hdd : d' < d) (hmx : maxL ≤ 45) (hcc : ce + mc' ≤ mc) (hss : sl + ms' ≤ ms) (hst : (rest.map fun v => v.category).sum ≤ 8) (hs : st = As.reverse ++ rest) (hp : pc + 3 = q)
    (kr : ∀ v h', Φ' v h' → jv_V E nL h' (ce + mc') (sl + ms') Q q lo (v.toList ++ rest)) : jv_V E nL h ce sl Q pc lo st := by
  subst hp
  intro H locs ls hR hS hl
  obtain ⟨⟨host, hlk⟩, hws, hcd, hy1, hy2, hpn⟩ := L
  have hts := G.2.2.2.2.1
  refine jv_one (va_runSN (host := host) (jv_fix G) M.met ⟨va_cnB n hts (jv_goodTB (l := []) (fun w hw => by cases hw) hcd) rfl rfl rfl (G.2.2.2.2.2.2.2.1.2.2.2.2 _ hlk) (hts _ (hws _ (by simp))) ⟨hy1, hy2, hpn⟩ (by rw [Z]; exact ⟨by simp only [jv_room]; omega, by simp only [jv_room]; omega⟩), hts _ hw, trivial⟩ (jv_pre G hR hS As) rfl hn hl.1 hs (lv_room hst) hd (by rw [Z]; exact ⟨hcc, hss⟩)) hS hl kr
end JVC
