/-! CONTRACTS with types that may be none; frames of callers' and uses' rows; the probe's object -/
section S06
variable {z : Nat → Nat → Nat} {T : Nat → Nat} {N : Nat → Nat → Nat} {h h1 : jv_H} {e : Nat} {ts : List mT} {Us : Nat → List Nat} {S : Nat → Prop}
theorem s06_E (hS : ∀ b s, jv_sh h b = some s → s ≠ .inl 0 → s ≠ .inl 6 → ¬ S b) (f : cF S h h1) (r : cv_E z T N h e ts) : cv_E z T N h1 e ts := by
  obtain ⟨⟨r1, r2, r3, r4, r5, r6, r7⟩, r8, r9, r10, r11, r12⟩ := r
  have n0 := hS _ _ r1 (by intro q; cases q) (by intro q; cases q)
  refine ⟨⟨(congrFun f.1 _).trans r1, (f.p _ _).trans r2, (congrFun f.1 _).trans r3, (f.p _ _).trans r4, (congrFun f.1 _).trans r5, (f.i n0 0).trans r6, fun k hk => (f.p _ _).trans (r7 k hk)⟩, fun k hk => f.t (r8 k hk), (f.i n0 3).trans r9, r10, fun k t ht => ?_, fun n hn => (f.p _ _).trans (r12 n hn)⟩
  obtain ⟨q, qo⟩ := r11 k t ht
  have hk : k < 10 := by have := jv_ltGet ht; omega
  have tl := r8 k hk
  have na := hS _ _ tl.1 (by intro q; cases q) (by intro q; cases q)
  have n8 := hS _ _ tl.2.2.1 (by intro q; cases q) (by intro q; cases q)
  refine ⟨⟨(f.i na 0).trans q.1, (f.i na 1).trans q.2.1, (f.i na 2).trans q.2.2.1, (f.i na 3).trans q.2.2.2.1, (f.i na 4).trans q.2.2.2.2.1, (f.i na 5).trans q.2.2.2.2.2.1, (f.i na 7).trans q.2.2.2.2.2.2.1, (f.i na 9).trans q.2.2.2.2.2.2.2.1, (f.l na 10).trans q.2.2.2.2.2.2.2.2.1, (f.l na 11).trans q.2.2.2.2.2.2.2.2.2.1, fun j v y => (f.i n8 j).trans (ct_f q y), fun j m y => ?_⟩, qo⟩
  have hj : j < 6 := by have := jv_ltGet y; have := qo.2.2.2.2.2.1; omega
  exact f.M (hS _ _ (tl.2.2.2.2.2.2.2 j hj).2 (by intro q; cases q) (by intro q; cases q)) (ct_m q y)
theorem s06_U (hS : ∀ b s, jv_sh h b = some s → s ≠ .inl 0 → s ≠ .inl 6 → ¬ S b) (f : cF S h h1) (hE : cv_E z T N h e ts) (r : cv_Us z T h e ts Us) : cv_Us z T h1 e ts Us := fun k hk => by
  have tl := hE.2.1 k (by have := hE.2.2.2.1; omega)
  obtain ⟨⟨u1, u2, u3⟩, u4⟩ := r k hk
  have na := hS _ _ tl.1 (by intro q; cases q) (by intro q; cases q)
  have n10 := hS _ _ tl.2.2.2.2.2.2.1 (by intro q; cases q) (by intro q; cases q)
  exact ⟨⟨(f.i na 13).trans u1, (f.i na 14).trans u2, fun j v y => (f.i n10 j).trans (u3 j v y)⟩, u4⟩
end S06
def SP (z : Nat → Nat → Nat) (y : Nat) : Prop := y = z 3 12 ∨ y = z 5 260
def cl_p (z : Nat → Nat → Nat) (h : jv_H) : Prop := jv_sh h (z 6 4) = some (.inl 4) ∧ jv_P h (z 6 4) 0 = some (z 3 12) ∧ jv_P h (z 6 4) 1 = some (z 5 260) ∧ jv_sh h (z 3 12) = some (.inl 0) ∧ jv_sh h (z 5 260) = some (.inl 6)
theorem sp_S {z : Nat → Nat → Nat} {h : jv_H} (lp : cl_p z h) : ∀ b s, jv_sh h b = some s → s ≠ .inl 0 → s ≠ .inl 6 → ¬ SP z b := fun b s hs n0 n6 q => by
  rcases q with q | q
  · rw [q, lp.2.2.2.1] at hs; exact n0 (Option.some.inj hs).symm
  · rw [q, lp.2.2.2.2] at hs; exact n6 (Option.some.inj hs).symm
theorem sp_L {z : Nat → Nat → Nat} {h h1 : jv_H} {S : Nat → Prop} (f : cF S h h1) (lp : cl_p z h) : cl_p z h1 := ⟨(congrFun f.1 _).trans lp.1, (f.p _ _).trans lp.2.1, (f.p _ _).trans lp.2.2.1, (congrFun f.1 _).trans lp.2.2.2.1, (congrFun f.1 _).trans lp.2.2.2.2⟩
theorem sp_n {z : Nat → Nat → Nat} {h : jv_H} (lp : cl_p z h) : z 5 260 ≠ z 3 12 := fun q => by have h1 := lp.2.2.2.2; rw [q, lp.2.2.2.1] at h1; cases h1
theorem cv_use.fr {h h1 : jv_H} {S : Nat → Prop} {u kd : Nat} {ty rc cv ow : Int32} {ko : Option Nat} (r : cv_use h u kd ty ko rc cv ow) (f : cF S h h1) (n : ¬ S u) : cv_use h1 u kd ty ko rc cv ow := ⟨(congrFun f.1 _).trans r.1, (f.i n 0).trans r.2.1, (f.i n 1).trans r.2.2.1, (f.i n 2).trans r.2.2.2.1, (f.i n 3).trans r.2.2.2.2.1, (f.i n 4).trans r.2.2.2.2.2.1, (f.i n 5).trans r.2.2.2.2.2.2⟩
theorem cv_use.rc {h : jv_H} {u kd : Nat} {ty rc cv ow rc' : Int32} {ko : Option Nat} (r : cv_use h u kd ty ko rc cv ow) : cv_use (jv_wI h u 3 rc') u kd ty ko rc' cv ow := ⟨r.1, (oI_o _ _ _ _ _).trans ((if_neg (by decide)).trans r.2.1), (oI_o _ _ _ _ _).trans ((if_neg (by decide)).trans r.2.2.1), (oI_o _ _ _ _ _).trans ((if_neg (by decide)).trans r.2.2.2.1), jv_I_self _ _ _ _, (oI_o _ _ _ _ _).trans ((if_neg (by decide)).trans r.2.2.2.2.2.1), (oI_o _ _ _ _ _).trans ((if_neg (by decide)).trans r.2.2.2.2.2.2)⟩
theorem cv_ca.fr {h h1 : jv_H} {S : Nat → Prop} {c ec p : Nat} {su : Option Nat} (r : cv_ca h c ec p su) (f : cF S h h1) (n : ¬ S c) : cv_ca h1 c ec p su := ⟨(congrFun f.1 _).trans r.1, (f.i n 0).trans r.2.1, (f.i n 1).trans r.2.2.1, (f.i n 2).trans r.2.2.2⟩
section OPT
variable {lA : Launch} {D : jv_D} {base : Nat} {z : Nat → Nat → Nat} {T : Nat → Nat} {N : Nat → Nat → Nat} {h : jv_H} {e : Nat} {ts : List mT} {Us : Nat → List Nat} {u kd : Nat} {ty rc cv ow : Int32} {ko : Option Nat}
theorem k_reachO (hlt : lA.stackTraces = false) (hE : cv_E z T N h e ts) (hU : cv_Us z T h e ts Us) (hu : cv_use h u kd ty ko rc cv ow) (hkd : kd < 6) (hK : ∀ K, ko = some K → K < 64) {c ec p : Nat} {su : Option Nat} (hc : cv_ca h c ec p su) (hp : p < 5) {ho : Option Nat} (hho : ∀ k, ho = some k → k < ts.length) : jv_Met lA D base yX6_hindranceToReach (.code yX6_hindranceToReach cX6_hindranceToReach 6 (some .int)) 3 0 0 [.ref u, .ref (z 0 e), .ref c, va_rf (ho.map (fun k => T (10 * e + k)))] h (jv_rI (nI (c_hr ts Us p su kd ty rc ko ho)) h) jv_no := by
  cases ho with
  | none => exact k_reach0 hlt hE hU hu hkd hK hc hp
  | some k =>
    obtain ⟨t, ht⟩ := jv_getLt (hho k rfl)
    exact k_reach1 hlt hE hU hu hkd hK hc hp ht
theorem k_runO (hlt : lA.stackTraces = false) (hE : cv_E z T N h e ts) (hU : cv_Us z T h e ts Us) (hu : cv_use h u kd ty ko rc cv ow) (hkd : kd < 6) (hK : ∀ K, ko = some K → K < 64) {rn : Option Nat} (hrn : ∀ k, rn = some k → k < ts.length) : jv_Met lA D base yX6_hindranceToRun (.code yX6_hindranceToRun cX6_hindranceToRun 5 (some .int)) 3 0 0 [.ref u, .ref (z 0 e), va_rf (rn.map (fun k => T (10 * e + k)))] h (jv_rI (nI (c_hn ts Us kd ty rc ko rn)) h) jv_no := by
  cases rn with
  | none => exact k_run0 hlt hE hU hu hkd hK
  | some k =>
    obtain ⟨t, ht⟩ := jv_getLt (hrn k rfl)
    exact k_run1 hlt hE hU hu hkd hK ht
theorem k_selO (hlt : lA.stackTraces = false) (hE : cv_E z T N h e ts) (hU : cv_Us z T h e ts Us) (hK : ∀ K, ko = some K → K < 64) {ho ro : Option Nat} (hho : ∀ k, ho = some k → k < ts.length) (hr : m_cn ts rc false = ro) : jv_Met lA D base yX2_selected (.code yX2_selected cX2_selected 8 (some (.object "LinkArchive$Type"))) 4 0 0 [.ref (z 0 e), va_rf (ho.map (fun k => T (10 * e + k))), .int (jv_oN ko), va_rf (ro.map (fun k => T (10 * e + k)))] h (jv_rR ((c_rn ts Us ho ko rc).map (fun k => T (10 * e + k))) h) jv_no := by
  cases ho with
  | none =>
    cases ro with
    | none =>
      have e1 : c_rn ts Us none ko rc = none := by unfold c_rn; rw [hr]
      rw [e1]
      exact k_selected0b hlt hE
    | some r =>
      have e1 : c_rn ts Us none ko rc = none := by unfold c_rn; rw [hr]
      rw [e1]
      exact k_selected0a hlt hE
  | some k =>
    obtain ⟨t, ht⟩ := jv_getLt (hho k rfl)
    cases ro with
    | none =>
      have e1 : c_rn ts Us (some k) ko rc = none := by unfold c_rn; rw [hr]
      rw [e1]
      exact k_selected1 hlt hE hU ht hK
    | some r =>
      obtain ⟨tr, htr, -⟩ := m_cn_get hr
      have e1 : c_rn ts Us (some k) ko rc = c_sl ts Us k ko r := by unfold c_rn; rw [hr]
      rw [e1]
      exact k_selected2 hlt hE hU ht hK htr
theorem rn_lt {ho : Option Nat} : ∀ k, c_rn ts Us ho ko rc = some k → k < ts.length := fun k hk => by
  obtain ⟨t, ht, -⟩ := rn_get hk
  exact jv_ltGet ht
theorem ho_lt : ∀ k, c_ho ts Us kd ty ko = some k → k < ts.length := fun k hk => by
  obtain ⟨t, ht, -⟩ := ho_get hk
  exact jv_ltGet ht
end OPT
/-- what a trial finds: any package reaches with the first; all that do reach with the second -/
def c_t1 (A B : List mT) (UA UB : Nat → List Nat) (kd : Nat) (ty rc : Int32) (ko ho hb : Option Nat) : Nat → Bool × Bool
  | 0 => (false, true)
  | p + 1 => if c_hr A UA p none kd ty rc ko ho = 0 then (true, (c_t1 A B UA UB kd ty rc ko ho hb p).2 && decide (c_hr B UB p none kd ty rc ko hb = 0)) else c_t1 A B UA UB kd ty rc ko ho hb p
def c_tb (A B : List mT) (UA UB : Nat → List Nat) (kd : Nat) (ty : Int32) (ko ho hb : Option Nat) (al : Bool) (i : Nat) : Bool := (A[i]?).any (fun y => decide (c_hn A UA kd ty (nI (mt_n y)) ko (c_rn A UA ho ko (nI (mt_n y))) = 0) && !(al && decide (c_hn B UB kd ty (nI (mt_n y)) ko (c_rn B UB hb ko (nI (mt_n y))) = 0)))
def c_tf (A B : List mT) (UA UB : Nat → List Nat) (kd : Nat) (ty rc : Int32) (ko ho hb : Option Nat) : Bool := if (c_t1 A B UA UB kd ty rc ko ho hb 5).1 = true ∧ m_rv kd = true then !m_any (c_tb A B UA UB kd ty ko ho hb (c_t1 A B UA UB kd ty rc ko ho hb 5).2) A.length else (c_t1 A B UA UB kd ty rc ko ho hb 5).2
