/-! THE CLAIM OUT OF ONE WALK OF THE LAW'S BODY. Your part is whole_start (and what it stands on); all else here is the same for every law, but numbers. -/
def R_law : String := "LinkArchiveLaw"
def lw_P (b : Addr) (xs : List Int32) (args : Array Value) (s : State) : Prop := args = #[.ref b] ∧ s.IntsAt b xs ∧ xs.length ≤ 4608 ∧ (Jvm.Cond.and given_1 narrow_1).before args s = true
def lw_Q (_ : Array Value) (s : State) (o : Outcome) (t : State) : Prop := o = .returned (some (.int 1)) ∧ Framed s o t [] 601024 7293034
def lw_Z (below : List Frame) (a : Array Value) (s : State) : State → Prop := fun t => ∃ o, t.status = .running ∧ Ended t below o ∧ lw_Q a s o t
/-- the law's own end, with 1 on the stack, nothing written that was there before, its room as the claim has it -/
theorem lw_ret {p : Program} {l : Launch} {e : Env} {s : State} {m : MethodId} {below : List Frame} {meth : Method} {c : Code} {b : Nat} (hx : p.tables.exec = Jvm.exec) (hb : c.code = code) (hr : meth.sig.returnType = ret) (hlocks : meth.locks = false) {pc : Nat} {H : Heap} {ls : Array Slot} (hdg : decode code pc = .ok (.ireturn, 1)) : W p l e room_1 s m #[Value.ref b] below meth c H [] 601024 7293034 (lw_Z below #[Value.ref b] s) (F0 m pc ls [.int 1]) := by
  intro T hT X
  obtain ⟨fs, hret, hrun, hended, hW, hframe⟩ := X.leave (v := some (.int 1)) (hlocks := hlocks) (fun h => by rw [hr] at h; cases h)
  have hmeth' : T.vm.method? m = some meth := X.method'
  refine ⟨T.setFrames fs, ?_, .returned (some (.int 1)), hrun, hended, rfl, ⟨_, rfl⟩, hW, hframe⟩
  jvm_step X.here [X.here.top, hx, hb, hdg, hmeth', hr, ret, narrow_b1]
  (try refine ⟨rfl, ?_⟩); (try refine ⟨rfl, ?_⟩)
  first | (intro acts; rw [hret _ acts rfl rfl rfl]) | rw [hret _ _ rfl rfl rfl]
  exact Steps.refl _
/-- what holds at the law's entry: the machine, the code, the tables' words (any of lw_tbl by 'hts w (by decide +kernel)'), the script of L ints xs at the cell b, what the Statement gives of the start (any of its parts by flat_of_before) -/
def lw_At (p : Program) (s : State) (m : MethodId) (meth : Method) (c : Code) (b L : Nat) (xs : Nat → Int32) : Prop :=
  p.tables.exec = Jvm.exec ∧ c.code = code ∧ meth.sig.returnType = ret ∧ c.maxLocals = 7 ∧ s.vm.findClass R_law = some m.cls ∧ (∀ w ∈ lw_tbl, w.before #[Value.ref b] s = true) ∧ va_X b L xs s s.heap ∧ b < s.heap.size ∧ meth.locks = false ∧ (Jvm.Cond.and given_1 narrow_1).before #[Value.ref b] s = true
theorem lw_retR {R : Room} {p : Program} {l : Launch} {e : Env} {s : State} {m : MethodId} {below : List Frame} {meth : Method} {c : Code} {b : Nat} (hx : p.tables.exec = Jvm.exec) (hb : c.code = code) (hr : meth.sig.returnType = ret) (hlocks : meth.locks = false) {pc : Nat} {H : Heap} {ls : Array Slot} (hdg : decode code pc = .ok (.ireturn, 1)) : W p l e R s m #[Value.ref b] below meth c H [] 601024 7293034 (lw_Z below #[Value.ref b] s) (F0 m pc ls [.int 1]) := by
  intro T hT X
  obtain ⟨fs, hret, hrun, hended, hW, hframe⟩ := X.leave (v := some (.int 1)) (hlocks := hlocks) (fun h => by rw [hr] at h; cases h)
  have hmeth' : T.vm.method? m = some meth := X.method'
  refine ⟨T.setFrames fs, ?_, .returned (some (.int 1)), hrun, hended, rfl, ⟨_, rfl⟩, hW, hframe⟩
  jvm_step X.here [X.here.top, hx, hb, hdg, hmeth', hr, ret, narrow_b1]
  (try refine ⟨rfl, ?_⟩); (try refine ⟨rfl, ?_⟩)
  first | (intro acts; rw [hret _ acts rfl rfl rfl]) | rw [hret _ _ rfl rfl rfl]
  exact Steps.refl _
section WS
variable {p : Program} {l : Launch} {e : Env} {R R' : Room} {s : State} {m : MethodId} {args : Array Value} {below : List Frame} {meth : Method} {c : Code} {H : Heap} {locs : List Loc} {cells slots : Nat} {Q : State → Prop} {g : JFrame}
theorem W_room (hf : R'.frames ≤ R.frames) (hl : R'.locals ≤ R.locals) (hc : R'.cells ≤ R.cells) (hs : R'.slots ≤ R.slots) (w : W p l e R' s m args below meth c H locs cells slots Q g) : W p l e R s m args below meth c H locs cells slots Q g := fun T hT X => w T hT ⟨X.admits, X.cas, X.clock, X.frames, by
  have h := X.room
  simp only [State.hasRoom, Bool.and_eq_true, decide_eq_true_eq] at h ⊢
  obtain ⟨⟨⟨⟨h1, h2, h3, h4, h5, h6⟩, h7⟩, h8⟩, h9⟩ := h
  refine ⟨⟨⟨⟨by omega, by omega, by omega, by omega, by omega, h6⟩, by omega⟩, by omega⟩, h9⟩, X.hears, X.method, X.code, X.here, X.tail, X.warmed, X.limits, X.bytes, X.same⟩
theorem W_lose (hl : ∀ x ∈ locs, s.heap.size ≤ x.base) (w : W p l e R s m args below meth c H [] cells slots Q g) : W p l e R s m args below meth c H locs cells slots Q g := fun T hT X => w T hT ⟨X.admits, X.cas, X.clock, X.frames, X.room, X.hears, X.method, X.code, X.here, X.tail, X.warmed, X.limits, X.bytes, X.same.weaken (fun y hy hlt => absurd hlt (Nat.not_lt.mpr (hl y hy))) (Nat.le_refl _) (Nat.le_refl _)⟩
end WS
section WK
variable {s : State} {args : Array Value}
theorem tb_of {w : Cond} (h : w ∈ jv_TB) : w ∈ lw_tbl := (List.mem_filter.mp h).1
theorem ot_of {w : Cond} (h : w ∈ jv_oth) : w ∈ lw_tbl := (List.mem_filter.mp h).1
theorem in_0 : Cond.instantiable RX0 5 ∈ lw_tbl := by decide +kernel
theorem in_1 : Cond.instantiable RX1 10 ∈ lw_tbl := by decide +kernel
theorem in_2 : Cond.instantiable RX2 5 ∈ lw_tbl := by decide +kernel
theorem in_3 : Cond.instantiable RX3 6 ∈ lw_tbl := by decide +kernel
theorem in_4 : Cond.instantiable RX4 2 ∈ lw_tbl := by decide +kernel
theorem in_5 : Cond.instantiable RX5 15 ∈ lw_tbl := by decide +kernel
theorem in_6 : Cond.instantiable RX6 6 ∈ lw_tbl := by decide +kernel
theorem in_7 : Cond.instantiable RX7 7 ∈ lw_tbl := by decide +kernel
theorem in_8 : Cond.instantiable RX8 42 ∈ lw_tbl := by decide +kernel
theorem in_cl (ci : Nat) (r : vw_C) (h : vwCl[ci]? = some r) : Cond.instantiable r.1 r.2.2 ∈ lw_tbl := by
  match ci, h with
  | 0, h => cases h; exact in_0
  | 1, h => cases h; exact in_1
  | 2, h => cases h; exact in_2
  | 3, h => cases h; exact in_3
  | 4, h => cases h; exact in_4
  | 5, h => cases h; exact in_5
  | 6, h => cases h; exact in_6
  | 7, h => cases h; exact in_7
  | 8, h => cases h; exact in_8
theorem ar_p {ty : FieldType} (hts : ∀ w ∈ lw_tbl, w.before args s = true) (h : Cond.arrayClass ty ∈ jv_TB) (hp : ∀ C, ty ≠ .object C) : ∃ cA, ArrOfT s cA ty ∧ va_RA s cA ty := by
  obtain ⟨cA, k, comp, h1, h2, h3⟩ := Cond.arrayClass_spec (hts _ (tb_of h))
  refine ⟨cA, fun N z => ⟨(fun k h => by cases h), k, h2, comp, h3⟩, ?_⟩
  cases ty with
  | object C => exact absurd rfl (hp C)
  | _ => exact h1
theorem ar_o {C : String} (hts : ∀ w ∈ lw_tbl, w.before args s = true) (h : Cond.arrayOver (.object C) ∈ jv_oth) : ∃ cA, ArrOfT s cA (.object C) ∧ va_RA s cA (.object C) := by
  obtain ⟨comp, cA, k, h1, -, h3, h4, h5⟩ := Cond.arrayOver_spec (hts _ (ot_of h))
  exact ⟨cA, fun N z => ⟨(fun k h => by cases h), k, h3, comp, h4⟩, k, comp, h3, h4, h1, h5⟩
theorem lw_K (hts : ∀ w ∈ lw_tbl, w.before args s = true) : ∃ D : jv_D, jv_K D s := by
  have cl : ∀ ci : Nat, ∃ q : ClassId × (Nat → Nat), ∀ r : vw_C, vwCl[ci]? = some r → u_Kn s r.1 r.2.1 r.2.2 q.1 q.2 := fun ci => by
    cases e : vwCl[ci]? with
    | none =>
      obtain ⟨c0, i0, -⟩ := u_known (fun w hw => hts w (tb_of hw)) (jv_cls 0 _ rfl).1 (hts _ in_0)
      exact ⟨(c0, i0), fun r h => by cases h⟩
    | some r =>
      obtain ⟨c0, i0, h⟩ := u_known (fun w hw => hts w (tb_of hw)) (jv_cls ci r e).1 (hts _ (in_cl ci r e))
      exact ⟨(c0, i0), fun r' h' => by cases h'; exact h⟩
  have ar : ∀ ty : FieldType, ∃ cA : ClassId, ty ∈ jv_tys → ArrOfT s cA ty ∧ va_RA s cA ty := fun ty => by
    obtain ⟨c0, hc0⟩ := ar_p hts ac_int (fun C q => by cases q)
    by_cases hty : ty ∈ jv_tys
    · have key : ∃ cA, ArrOfT s cA ty ∧ va_RA s cA ty := by
        simp only [jv_tys, List.mem_cons, List.not_mem_nil, or_false] at hty
        rcases hty with rfl | rfl | rfl | rfl | rfl | rfl | rfl | rfl
        · exact ⟨c0, hc0⟩
        · exact ar_p hts ac_boolean (fun C q => by cases q)
        · exact ar_p hts ac_long (fun C q => by cases q)
        · exact ar_o hts an_X7_9.2
        · exact ar_o hts an_X7_15.2
        · exact ar_o hts an_X2_9.2
        · exact ar_o hts an_X5_15.2
        · exact ar_o hts an_X0_9.2
      obtain ⟨cA, h⟩ := key
      exact ⟨cA, fun _ => h⟩
    · exact ⟨c0, fun h => absurd h hty⟩
  exact ⟨(fun ci => (Classical.choose (cl ci)).1, fun ci => (Classical.choose (cl ci)).2, fun ty => Classical.choose (ar ty)), fun ci r h => Classical.choose_spec (cl ci) r h, fun ty h => Classical.choose_spec (ar ty) h⟩
theorem st_in : ∀ w ∈ jv_strs, Cond.stringRef "LinkArchive" w.1 w.2 ∈ lw_tbl := by decide +kernel
theorem ls_1 : Cond.laysStatic Bundle.tN "UNASSIGNED_STACK" Bundle.steD ∈ lw_tbl := by decide +kernel
theorem ls_2 : Cond.laysStatic Bundle.tN "SUPPRESSED_SENTINEL" Bundle.listD ∈ lw_tbl := by decide +kernel
theorem ls_3 : Cond.initialized Bundle.tN ∈ lw_tbl := by decide +kernel
theorem lw_X (hts : ∀ w ∈ lw_tbl, w.before args s = true) (hgv : (Jvm.Cond.and given_1 narrow_1).before args s = true) : jv_X s.heap.size s s.heap := by
  have hs := flat_of_before _ hgv
  have out : ∀ a : Nat, a < s.heap.size → ¬ s.heap.size ≤ a := fun a h y => by omega
  obtain ⟨cC, kC, hfc, -⟩ := Cond.instantiable_spec (hts _ in_7)
  refine ⟨vx_Zqof (hts _ ls_1) (hts _ ls_3) (hs (Cond.isRef (.static Bundle.tN "UNASSIGNED_STACK" Bundle.steD)) (by decide +kernel)) out, vx_Zqof (hts _ ls_2) (hts _ ls_3) (hs (Cond.isRef (.static Bundle.tN "SUPPRESSED_SENTINEL" Bundle.listD)) (by decide +kernel)) out, fun w hw => ?_, fun c hc t ht hn => va_Nc.of (args := args) ?_, fun w hw => ?_⟩
  · have h := hts _ (st_in w hw)
    obtain ⟨-, -, -, sa, -, -, -, -, -, hev⟩ := Cond.stringRef_spec hfc h
    exact ⟨sa, vk_R.of h hev⟩
  · simp only [jv_exs, List.mem_cons, List.not_mem_nil, or_false] at hc ht
    rcases hc with rfl | rfl | rfl | rfl | rfl <;> rcases ht with rfl | rfl | rfl | rfl | rfl <;> first | exact absurd rfl hn | exact hs _ (by decide +kernel)
  · have h := hts w (ot_of hw)
    rcases jv_oth_on w hw with h4 | ⟨C, rfl⟩
    · exact va_Nw.of h4 h
    · exact va_AO.of h
end WK
set_option maxHeartbeats 4000000 in
/-- from the entry, for every script of at most 4608 ints, the law comes to its end with true -/
theorem whole_start {p : Program} {e : Env} {s : State} {m : MethodId} {below : List Frame} {meth : Method} {c : Code} (l : Launch) (hlt : l.stackTraces = false) {b L : Nat} {xs : Nat → Int32} (hL : L ≤ 4608) (C0 : lw_At p s m meth c b L xs) : W p l e room_1 s m #[Value.ref b] below meth c s.heap [] 0 0 (lw_Z below #[Value.ref b] s) (entryFrame m ([Value.ref b] : List Value).toArray 7) := by
  obtain ⟨hx, hb, hr, hml, hown, hts, hX, hbl, hlk, hgv⟩ := C0
  obtain ⟨D, hK⟩ := lw_K hts
  have hXX := lw_X hts hgv
  refine W_room (R' := jv_room 1000 601024 7293034) (by decide) (by decide) (by decide) (by decide) ?_
  have hC : jv_C (p, l, e, jv_room 1000 601024 7293034, s, m, #[Value.ref b], below, meth, c, D, s.heap.size) cL_law RL 7 := ⟨hx, hb, hml, hown, fun w hw => hts w (tb_of hw), hK, Nat.le_refl _, hXX, hlt, hlk⟩
  have kE : ∀ (h' : jv_H) (ce' sl' : Nat), ce' ≤ 600000 → sl' ≤ 7000000 → jv_V (p, l, e, jv_room 1000 601024 7293034, s, m, #[Value.ref b], below, meth, c, D, s.heap.size) 7 h' ce' sl' (lw_Z below #[Value.ref b] s) 2128 [] [] := fun h' ce' sl' c1 c2 => by
    refine jv_iconst (q := 2129) (v := nI 1) hC dL_law_2128 (by decide) rfl ?_
    intro H locs ls hR hS hl
    exact W_lose hS.2.2 (W.widen (by omega) (by omega) (lw_retR hx hb hr hlk dL_law_2129))
  have hV := law_all (h := (fun _ => none, fun _ _ => 0, fun _ _ => 0, fun _ _ => none)) hlt hC rfl ⟨hX, hbl, hbl⟩ hL kE
  have hl0 := lv_entry [Value.ref b] (n := 7) (Nat.le_of_ble_eq_true rfl)
  rw [lg_entry_eq]
  generalize (lg_sl [Value.ref b] ++ List.replicate (7 - (lg_sl [Value.ref b]).length) Slot.unset).toArray = ls at hl0 ⊢
  exact hV s.heap [] ls (fun a sh e => by cases e) va_S.rf hl0
