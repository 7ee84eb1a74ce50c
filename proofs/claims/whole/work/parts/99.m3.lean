/-! the meeting itself -/
theorem mt_lt {kd : Nat} (h : kd < 5) : m_mt kd = !decide (kd < 2) := by
  rcases (by omega : kd = 0 ∨ kd = 1 ∨ kd = 2 ∨ kd = 3 ∨ kd = 4) with e | e | e | e | e <;> subst e <;> rfl
theorem rv_iff {kd : Nat} : m_rv kd = true ↔ kd = 2 ∨ kd = 4 := by
  unfold m_rv
  rw [Bool.or_eq_true, decide_eq_true_iff, decide_eq_true_iff]
theorem rv_mt {kd : Nat} (h : m_rv kd = true) : m_mt kd = true := by
  rcases rv_iff.mp h with e | e <;> subst e <;> rfl
theorem if_fp {ts : List mT} {kd k : Nat} (h : kd < 5) {n s : Int32} : (if kd < 2 then m_ff ts 11 k n s else m_fm ts 11 k n s) = m_fp ts kd k n s := by
  unfold m_fp
  rw [mt_lt h]
  by_cases hk : kd < 2
  · rw [if_pos hk, if_neg (by simp [hk])]
  · rw [if_neg hk, if_pos (by simp [hk])]
section MET
variable {ts : List mT} {pk : Nat} {su : Option Nat} {kd : Nat} {ty n s rc : Int32}
theorem hr_1a {ho : Option Nat} {ko : Option Nat} {Us : Nat → List Nat} (h : m_at ts ty = none) : c_hr ts Us pk su kd ty rc ko ho = 1 := by unfold c_hr; rw [h]; rfl
theorem hr_at {ho : Option Nat} {ko : Option Nat} {Us : Nat → List Nat} {k : Nat} {t : mT} (h : m_at ts ty = some k) (ht : ts[k]? = some t) : c_hr ts Us pk su kd ty rc ko ho = (if m_rv kd && (m_at ts rc).isNone then 1 else if !mt_p t && !decide (mt_k t = pk) then 3 else if m_rv kd && !decide (mt_i t = decide (kd = 4)) then 6 else if kd = 5 then (if mt_a t then 5 else 0) else match ho.bind (fun k => ts[k]?) with
    | none => 2
    | some th => match m_om th (m_mt kd) ko with
      | none => 2
      | some m => if c_mt ts Us pk su th m then (if mm_t m = m_ws kd then 0 else 4) else 3) := by
  unfold c_hr
  rw [h, Option.bind_some, ht]
  rfl
end MET
/-- the reference's meeting where nothing was copied, by the class's words -/
theorem met_main {own : Bool} {tsC ts : List mT} (hs : m_so ts) {pk : Nat} {su : Option Nat} (hsu : ∀ u, su = some u → u < 16) {kd : Nat} (hkd : kd < 6) {ty n s rc ow : Int32} (hco : (if own then none else m_co tsC kd ty n s) = none) (how : m_rv kd = true → own = false → ow = jv_oN (m_orn tsC ty n s rc)) (how2 : m_rv kd = true → own = true → ow = c_nm ts (c_rn ts (m_Us ts) (c_ho ts (m_Us ts) kd ty (ky n s)) (ky n s) rc)) :
    (m_met own tsC ts pk su kd ty n s rc).1 = (if ¬ c_hr ts (m_Us ts) pk su kd ty rc (ky n s) (c_ho ts (m_Us ts) kd ty (ky n s)) = 0 ∨ m_rv kd = false then c_hr ts (m_Us ts) pk su kd ty rc (ky n s) (c_ho ts (m_Us ts) kd ty (ky n s)) else if c_hn ts (m_Us ts) kd ty rc (ky n s) (c_rn ts (m_Us ts) (c_ho ts (m_Us ts) kd ty (ky n s)) (ky n s) rc) = 0 ∧ ¬ c_nm ts (c_rn ts (m_Us ts) (c_ho ts (m_Us ts) kd ty (ky n s)) (ky n s) rc) = ow then 8 else c_hn ts (m_Us ts) kd ty rc (ky n s) (c_rn ts (m_Us ts) (c_ho ts (m_Us ts) kd ty (ky n s)) (ky n s) rc)) ∧
    (((m_met own tsC ts pk su kd ty n s rc).1 = 0 ∨ (m_met own tsC ts pk su kd ty n s rc).1 = 8) → jv_oN (m_met own tsC ts pk su kd ty n s rc).2 = if m_mt kd then (if m_rv kd then c_nm ts (c_rn ts (m_Us ts) (c_ho ts (m_Us ts) kd ty (ky n s)) (ky n s) rc) else c_nm ts (c_ho ts (m_Us ts) kd ty (ky n s))) else -1) := by
  have nz : ∀ {x : Nat} {y : Nat × Option Nat} {H Z : Nat} {bb : Bool} {R : Int32}, y = (x, none) → H = x → ¬ x = 0 → ¬ x = 8 → y.1 = (if ¬ H = 0 ∨ bb = false then H else Z) ∧ ((y.1 = 0 ∨ y.1 = 8) → jv_oN y.2 = R) := fun {x y H Z bb R} e1 e2 e3 e4 => by
    subst e2
    rw [e1]
    exact ⟨by rw [if_pos (Or.inl e3)], fun q => q.elim (fun q => absurd q e3) (fun q => absurd q e4)⟩
  have nn : ∀ {x : Nat} {y : Nat × Option Nat} {H V : Nat} {bb : Bool} {p1 p2 R : Int32}, y = (x, none) → H = 0 → bb = true → V = x → ¬ x = 0 → ¬ x = 8 → y.1 = (if ¬ H = 0 ∨ bb = false then H else if V = 0 ∧ ¬ p1 = p2 then 8 else V) ∧ ((y.1 = 0 ∨ y.1 = 8) → jv_oN y.2 = R) := fun {x y H V bb p1 p2 R} e1 e2 eb ev e3 e4 => by
    subst ev
    rw [e1]
    refine ⟨?_, fun q => q.elim (fun q => absurd q e3) (fun q => absurd q e4)⟩
    rw [if_neg (fun q => q.elim (fun q => q e2) (fun q => by rw [eb] at q; cases q)), if_neg (fun q => e3 q.1)]
  cases hk : m_at ts ty with
  | none =>
    refine nz (x := 1) ?_ (hr_1a hk) (by decide) (by decide)
    unfold m_met
    rw [hco]
    dsimp only
    rw [hk]
  | some k =>
    obtain ⟨t, ht, htn⟩ := m_at_get hk
    rw [ho_fp hs hk]
    have hre := hr_at (pk := pk) (su := su) (kd := kd) (rc := rc) (ho := (m_fp ts kd k n s).map Prod.fst) (ko := ky n s) (Us := m_Us ts) hk ht
    have hme : m_met own tsC ts pk su kd ty n s rc = (match (if kd = 2 ∨ kd = 4 then m_at ts rc else some 0) with
      | none => (1, none)
      | some kr => if mt_p t = false ∧ ¬ mt_k t = pk then (3, none) else
          if kd = 2 ∧ mt_i t = true then (6, none) else if kd = 4 ∧ mt_i t = false then (6, none) else
          if kd = 5 then (if mt_a t then (5, none) else (0, none)) else
          match (if kd < 2 then m_ff ts 11 k n s else m_fm ts 11 k n s) with
          | none => (2, none)
          | some p => match ts[p.1]? with
            | none => (2, none)
            | some td => match (mt_m td)[p.2]? with
              | none => (2, none)
              | some md => if m_mr ts pk su td md = false then (3, none) else
                if ¬ mm_t md = (decide (kd = 1) || decide (kd = 3)) then (4, none) else
                if ¬ (kd = 2 ∨ kd = 4) then (0, if kd = 3 then some (mt_n td) else none) else
                match ts[kr]? with
                | none => (6, none)
                | some tr => if mt_i tr then (6, none) else if mt_a tr then (6, none) else if ¬ kr = k ∧ m_isA ts ty rc = false then (6, none) else
                  match m_sl ts 11 td md p.1 p.2 kr with
                  | none => (5, none)
                  | some o => match ts[o.1]? with
                    | none => (5, none)
                    | some to => match (mt_m to)[o.2]? with
                      | none => (5, none)
                      | some mo => if ¬ 0 ≤ mm_b mo then (5, none) else if kd = 4 ∧ ¬ mm_a mo = 3 then (3, none) else
                        (if own = false ∧ ¬ nI (mt_n to) = jv_oN (m_orn tsC ty n s rc) then 8 else 0, some (mt_n to))) := by
      unfold m_met
      rw [hco]
      dsimp only
      rw [hk]
      dsimp only
      cases (if kd = 2 ∨ kd = 4 then m_at ts rc else some 0) with
      | none => rfl
      | some kr =>
        dsimp only
        rw [ht]
        rfl
    by_cases hr1 : (m_rv kd && (m_at ts rc).isNone) = true
    · refine nz (x := 1) ?_ (hre.trans (if_pos hr1)) (by decide) (by decide)
      rw [hme]
      have e1 : (if kd = 2 ∨ kd = 4 then m_at ts rc else some 0) = none := by
        rw [Bool.and_eq_true] at hr1
        rw [if_pos (rv_iff.mp hr1.1)]
        exact Option.isNone_iff_eq_none.mp hr1.2
      rw [e1]
    · have hre := hre.trans (if_neg hr1)
      obtain ⟨kr, hkr, hkr2⟩ : ∃ kr, (if kd = 2 ∨ kd = 4 then m_at ts rc else some 0) = some kr ∧ (m_rv kd = true → m_at ts rc = some kr) := by
        by_cases h2 : kd = 2 ∨ kd = 4
        · rw [if_pos h2]
          cases h3 : m_at ts rc with
          | none => exact absurd (by rw [rv_iff.mpr h2, h3]; rfl) hr1
          | some kr => exact ⟨kr, rfl, fun _ => rfl⟩
        · rw [if_neg h2]
          exact ⟨0, rfl, fun h => absurd (rv_iff.mp h) h2⟩
      rw [hkr] at hme
      dsimp only at hme
      by_cases h3 : mt_p t = false ∧ ¬ mt_k t = pk
      · exact nz (hme.trans (if_pos h3)) (hre.trans (if_pos (show (!mt_p t && !decide (mt_k t = pk)) = true by rw [h3.1, decide_eq_false h3.2]; rfl))) (by decide) (by decide)
      · have hme := hme.trans (if_neg h3)
        have hre := hre.trans (if_neg (show ¬ (!mt_p t && !decide (mt_k t = pk)) = true from fun q => h3 (by simpa using q)))
        by_cases h6 : (m_rv kd && !decide (mt_i t = decide (kd = 4))) = true
        · have hre := hre.trans (if_pos h6)
          have e6 : (kd = 2 ∧ mt_i t = true) ∨ (kd = 4 ∧ mt_i t = false) := by
            rw [Bool.and_eq_true] at h6
            rcases rv_iff.mp h6.1 with e | e
            · subst e
              exact Or.inl ⟨rfl, by have := h6.2; simpa using this⟩
            · subst e
              exact Or.inr ⟨rfl, by have := h6.2; simpa using this⟩
          rcases e6 with e6 | e6
          · exact nz (hme.trans (if_pos e6)) hre (by decide) (by decide)
          · exact nz (hme.trans ((if_neg (fun q => by rw [e6.2] at q; cases q.2)).trans (if_pos e6))) hre (by decide) (by decide)
        · have hre := hre.trans (if_neg h6)
          have n2 : ¬ (kd = 2 ∧ mt_i t = true) := fun q => h6 (by rw [q.1, q.2]; rfl)
          have n4 : ¬ (kd = 4 ∧ mt_i t = false) := fun q => h6 (by rw [q.1, q.2]; rfl)
          have hme := hme.trans ((if_neg n2).trans (if_neg n4))
          by_cases h5 : kd = 5
          · have hme := hme.trans (if_pos h5)
            have hre := hre.trans (if_pos h5)
            by_cases ha : mt_a t = true
            · exact nz (hme.trans (if_pos ha)) (hre.trans (if_pos ha)) (by decide) (by decide)
            · have hme := hme.trans (if_neg ha)
              have hre := hre.trans (if_neg ha)
              have hrv : m_rv kd = false := by rw [h5]; rfl
              have hmt : m_mt kd = false := by rw [h5]; rfl
              rw [hme, if_pos (Or.inr hrv), hre, if_neg (show ¬ m_mt kd = true by rw [hmt]; decide)]
              exact ⟨rfl, fun _ => rfl⟩
          · have hme := hme.trans (if_neg h5)
            have hre := hre.trans (if_neg h5)
            rw [if_fp (by omega)] at hme
            cases hp : m_fp ts kd k n s with
            | none =>
              rw [hp] at hme hre
              exact nz hme hre (by decide) (by decide)
            | some p =>
              obtain ⟨td, md, h1, h2, h3', h4, ok5, w6⟩ := fp_own hs hp
              rw [hp] at hme hre
              have eb : (Option.map Prod.fst (some p)).bind (fun k => ts[k]?) = some td := h1
              rw [eb] at hre
              dsimp only at hre hme
              rw [h4] at hre
              rw [h1] at hme
              dsimp only at hre hme
              rw [h3'] at hme
              dsimp only at hme
              rw [mr_mt hs hsu h1 ok5] at hre
              by_cases hm : m_mr ts pk su td md = true
              · have hme := hme.trans (if_neg (show ¬ m_mr ts pk su td md = false by rw [hm]; decide))
                have hre := hre.trans (if_pos hm)
                by_cases hst : mm_t md = m_ws kd
                · have hme := hme.trans (if_neg (show ¬ ¬ mm_t md = (decide (kd = 1) || decide (kd = 3)) from fun q => q hst))
                  have hre := hre.trans (if_pos hst)
                  by_cases hrv : m_rv kd = true
                  · have hk24 := rv_iff.mp hrv
                    have hr := hkr2 hrv
                    obtain ⟨tr, htr, -⟩ := m_at_get hr
                    have hme := hme.trans (if_neg (show ¬ ¬ (kd = 2 ∨ kd = 4) from fun q => q hk24))
                    rw [htr] at hme
                    dsimp only at hme
                    have hmt := rv_mt hrv
                    rw [hmt] at h2 w6
                    have ehn : ∀ rn, c_hn ts (m_Us ts) kd ty rc (ky n s) rn = (if mt_i tr || mt_a tr || !(decide (rc = ty) || c_ha ts (m_Us ts) ty rc) then 6 else match c_ob ts rn true (ky n s) with
                        | none => 5
                        | some m => if m_abs m then 5 else if kd = 4 ∧ ¬ mm_a m = 3 then 3 else 0) := fun rn => by
                      unfold c_hn
                      rw [hr, Option.bind_some, htr]
                      rfl
                    by_cases hi : mt_i tr = true
                    · exact nn (hme.trans (if_pos hi)) hre hrv ((ehn _).trans (if_pos (show (mt_i tr || mt_a tr || !(decide (rc = ty) || c_ha ts (m_Us ts) ty rc)) = true by rw [hi]; rfl))) (by decide) (by decide)
                    · have hme := hme.trans (if_neg hi)
                      have hi : mt_i tr = false := by simpa using hi
                      by_cases ha : mt_a tr = true
                      · exact nn (hme.trans (if_pos ha)) hre hrv ((ehn _).trans (if_pos (show (mt_i tr || mt_a tr || !(decide (rc = ty) || c_ha ts (m_Us ts) ty rc)) = true by rw [ha, hi]; rfl))) (by decide) (by decide)
                      · have hme := hme.trans (if_neg ha)
                        have ha : mt_a tr = false := by simpa using ha
                        by_cases hab : ¬ kr = k ∧ m_isA ts ty rc = false
                        · exact nn (hme.trans (if_pos hab)) hre hrv ((ehn _).trans (if_pos (show (mt_i tr || mt_a tr || !(decide (rc = ty) || c_ha ts (m_Us ts) ty rc)) = true by
                            rw [ha_isA hs, hab.2, decide_eq_false (fun q => hab.1 ((at_ty hs hr hk).mpr q)), hi, ha]; rfl))) (by decide) (by decide)
                        · have hme := hme.trans (if_neg hab)
                          have ehn := fun rn => (ehn rn).trans (if_neg (show ¬ (mt_i tr || mt_a tr || !(decide (rc = ty) || c_ha ts (m_Us ts) ty rc)) = true by
                            rw [ha_isA hs, hi, ha]
                            intro q
                            refine hab ?_
                            simp at q
                            exact ⟨fun e => q.1 ((at_ty hs hr hk).mp e), q.2⟩))
                          have e2 : c_rn ts (m_Us ts) (Option.map Prod.fst (some p)) (ky n s) rc = (m_sl ts 11 td md p.1 p.2 kr).map Prod.fst := by
                            unfold c_rn
                            rw [cn_f hr htr hi]
                            exact sl_sl hs h1 h2 h3' htr
                          have how3 : own = true → ow = c_nm ts ((m_sl ts 11 td md p.1 p.2 kr).map Prod.fst) := fun ho => by
                            rw [how2 hrv ho, ho_fp hs hk, hp, e2]
                          rw [e2]
                          cases hl : m_sl ts 11 td md p.1 p.2 kr with
                          | none =>
                            rw [hl] at hme
                            exact nn hme hre hrv (ehn _) (by decide) (by decide)
                          | some o =>
                            rw [hl] at hme
                            obtain ⟨to, h7, h8⟩ := sl_own hs h1 h2 h3' hl
                            obtain ⟨mo, h9, h10, -⟩ := oc_some h8
                            have eo : c_ob ts (Option.map Prod.fst (some o)) true (ky n s) = some mo := by
                              show (ts[o.1]?).bind _ = _
                              rw [h7]
                              show m_om to true (ky n s) = _
                              unfold m_om
                              rw [h8]; exact h9
                            have ehn := ehn (Option.map Prod.fst (some o))
                            rw [eo] at ehn
                            dsimp only at ehn hme
                            rw [h7] at hme
                            dsimp only at hme
                            rw [h9] at hme
                            dsimp only at hme
                            have oko := (hs.ok h7).2.2.2.2.2.2 mo (List.mem_of_getElem? h9)
                            by_cases hbn : ¬ 0 ≤ mm_b mo
                            · exact nn (hme.trans (if_pos hbn)) hre hrv (ehn.trans (if_pos ((b_neg oko h10).mpr hbn))) (by decide) (by decide)
                            · have hme := hme.trans (if_neg hbn)
                              have ehn := ehn.trans (if_neg (fun q => hbn ((b_neg oko h10).mp q)))
                              by_cases h43 : kd = 4 ∧ ¬ mm_a mo = 3
                              · exact nn (hme.trans (if_pos h43)) hre hrv (ehn.trans (if_pos h43)) (by decide) (by decide)
                              · have hme := hme.trans (if_neg h43)
                                have ehn := ehn.trans (if_neg h43)
                                have enm : c_nm ts (Option.map Prod.fst (some o)) = nI (mt_n to) := nm_some h7
                                have etest : (own = false ∧ ¬ nI (mt_n to) = jv_oN (m_orn tsC ty n s rc)) ↔ ¬ nI (mt_n to) = ow := by
                                  cases hown : own with
                                  | false =>
                                    rw [how hrv hown]
                                    exact ⟨fun q => q.2, fun q => ⟨rfl, q⟩⟩
                                  | true =>
                                    constructor
                                    · intro q; cases q.1
                                    · intro q
                                      refine absurd ?_ q
                                      rw [how3 hown, hl, enm]
                                rw [hme, if_pos hmt, if_pos hrv, enm]
                                refine ⟨?_, fun _ => rfl⟩
                                rw [if_neg (show ¬ (¬ c_hr ts (m_Us ts) pk su kd ty rc (ky n s) (Option.map Prod.fst (some p)) = 0 ∨ m_rv kd = false) from fun q => q.elim (fun q => q hre) (fun q => by rw [hrv] at q; cases q)), ehn]
                                by_cases h8' : own = false ∧ ¬ nI (mt_n to) = jv_oN (m_orn tsC ty n s rc)
                                · rw [if_pos h8', if_pos ⟨rfl, etest.mp h8'⟩]
                                · rw [if_neg h8', if_neg (fun q => h8' (etest.mpr q.2))]
                  · have hrv : m_rv kd = false := by simpa using hrv
                    have hk24 : ¬ (kd = 2 ∨ kd = 4) := fun q => by rw [rv_iff.mpr q] at hrv; cases hrv
                    have hme := hme.trans (if_pos hk24)
                    rw [hme, if_pos (Or.inr hrv), hre, if_neg (show ¬ m_rv kd = true by rw [hrv]; decide)]
                    refine ⟨rfl, fun _ => ?_⟩
                    by_cases h33 : kd = 3
                    · rw [if_pos h33, if_pos (show m_mt kd = true by rw [h33]; rfl)]
                      exact (nm_some h1).symm
                    · rw [if_neg h33, if_neg (show ¬ m_mt kd = true from fun q => by
                        unfold m_mt at q
                        rw [Bool.or_eq_true, Bool.or_eq_true, decide_eq_true_iff, decide_eq_true_iff, decide_eq_true_iff] at q
                        omega)]
                      rfl
                · exact nz (hme.trans (if_pos (show ¬ mm_t md = (decide (kd = 1) || decide (kd = 3)) from hst))) (hre.trans (if_neg hst)) (by decide) (by decide)
              · have hm : m_mr ts pk su td md = false := by simpa using hm
                exact nz (hme.trans (if_pos hm)) (hre.trans (if_neg (show ¬ m_mr ts pk su td md = true by rw [hm]; decide))) (by decide) (by decide)
theorem met_me {own : Bool} {tsC ts : List mT} (hsC : m_so tsC) (hs : m_so ts) (hown : own = true → tsC = ts) {pk : Nat} {su : Option Nat} (hsu : ∀ u, su = some u → u < 16) {kd : Nat} (hkd : kd < 6) {ty n s rc : Int32} :
    (m_met own tsC ts pk su kd ty n s rc).1 = c_me own ts (m_Us ts) pk su kd ty rc (ky n s) (c_cv tsC (m_Us tsC) kd ty (ky n s)) (c_ow tsC (m_Us tsC) kd ty rc (ky n s)) ∧
    (((m_met own tsC ts pk su kd ty n s rc).1 = 0 ∨ (m_met own tsC ts pk su kd ty n s rc).1 = 8) → jv_oN (m_met own tsC ts pk su kd ty n s rc).2 = if m_mt kd then (if m_rv kd then c_nm ts (c_rn ts (m_Us ts) (c_ho ts (m_Us ts) kd ty (ky n s)) (ky n s) rc) else c_nm ts (c_ho ts (m_Us ts) kd ty (ky n s))) else -1) := by
  obtain ⟨ecv, ncv⟩ := co_cv hsC (kd := kd) (ty := ty) (n := n) (s := s)
  have main : (if own then none else m_co tsC kd ty n s) = none → ¬ (¬ c_cv tsC (m_Us tsC) kd ty (ky n s) = -1 ∧ own = false) → (m_met own tsC ts pk su kd ty n s rc).1 = c_me own ts (m_Us ts) pk su kd ty rc (ky n s) (c_cv tsC (m_Us tsC) kd ty (ky n s)) (c_ow tsC (m_Us tsC) kd ty rc (ky n s)) ∧
    (((m_met own tsC ts pk su kd ty n s rc).1 = 0 ∨ (m_met own tsC ts pk su kd ty n s rc).1 = 8) → jv_oN (m_met own tsC ts pk su kd ty n s rc).2 = if m_mt kd then (if m_rv kd then c_nm ts (c_rn ts (m_Us ts) (c_ho ts (m_Us ts) kd ty (ky n s)) (ky n s) rc) else c_nm ts (c_ho ts (m_Us ts) kd ty (ky n s))) else -1) := fun hco hn => by
    unfold c_me
    rw [if_neg hn]
    refine met_main hs hsu hkd hco (fun hr _ => ?_) (fun hr ho => ?_)
    · unfold c_ow
      rw [if_pos hr]
      exact orn_ow hsC (rv_mt hr)
    · unfold c_ow
      rw [if_pos hr, hown ho]
  cases ho : own with
  | true =>
    subst ho
    exact main rfl (fun q => by cases q.2)
  | false =>
    subst ho
    cases hc : m_co tsC kd ty n s with
    | none =>
      rw [hc] at ecv
      exact main hc (fun q => q.1 ecv)
    | some pc =>
      have hk1 : kd = 1 := by
        unfold m_co at hc
        split at hc
        · assumption
        · cases hc
      subst hk1
      have hb := ncv pc hc
      rw [hc] at ecv
      have ecv : c_cv tsC (m_Us tsC) 1 ty (ky n s) = m_bd tsC pc := ecv
      have hX := (co_ci hs (ty := ty) (n := n) (s := s)).1
      have m1 : m_co ts 1 ty n s = (match m_at ts ty with
          | none => none
          | some k => match m_ff ts 11 k n s with
            | none => none
            | some p => if m_isC ts p then some p else none) := by
        unfold m_co
        rw [if_pos rfl]
        rfl
      have hme : m_met false tsC ts pk su 1 ty n s rc = (match m_at ts ty with
          | none => (9, none)
          | some k => match m_ff ts 11 k n s with
            | none => (9, none)
            | some p => if m_isC ts p then (if m_bd ts p = m_bd tsC pc then (0, none) else (9, none)) else (9, none)) := by
        unfold m_met
        rw [if_neg (show ¬ false = true by decide), hc]
        rfl
      have hce : c_me false ts (m_Us ts) pk su 1 ty rc (ky n s) (c_cv tsC (m_Us tsC) 1 ty (ky n s)) (c_ow tsC (m_Us tsC) 1 ty rc (ky n s)) = (if c_ci ts (c_ho ts (m_Us ts) 1 ty (ky n s)) (ky n s) = m_bd tsC pc then 0 else 9) := by
        unfold c_me
        rw [ecv, if_pos ⟨hb, rfl⟩]
      rw [hce]
      have nine : ∀ {y : Nat × Option Nat} {X R : Int32}, y = (9, none) → X = -1 → (y.1 = if X = m_bd tsC pc then 0 else 9) ∧ ((y.1 = 0 ∨ y.1 = 8) → jv_oN y.2 = R) := fun {y X R} e1 e2 => by
        subst e2
        rw [e1]
        exact ⟨by rw [if_neg (fun q => hb q.symm)], fun q => q.elim (fun q => absurd q (show ¬ (9 : Nat) = 0 by decide)) (fun q => absurd q (show ¬ (9 : Nat) = 8 by decide))⟩
      rw [m1] at hX
      cases hk : m_at ts ty with
      | none =>
        rw [hk] at hX hme
        exact nine hme hX
      | some k =>
        rw [hk] at hX hme
        dsimp only at hX hme
        cases hf : m_ff ts 11 k n s with
        | none =>
          rw [hf] at hX hme
          exact nine hme hX
        | some p =>
          rw [hf] at hX hme
          dsimp only at hX hme
          by_cases hi : m_isC ts p = true
          · rw [if_pos hi] at hX hme
            have hX : c_ci ts (c_ho ts (m_Us ts) 1 ty (ky n s)) (ky n s) = m_bd ts p := hX
            rw [hX, hme]
            by_cases he : m_bd ts p = m_bd tsC pc
            · rw [if_pos he, if_pos he]
              exact ⟨rfl, fun _ => rfl⟩
            · rw [if_neg he, if_neg he]
              exact ⟨rfl, fun q => q.elim (fun q => absurd q (show ¬ (9 : Nat) = 0 by decide)) (fun q => absurd q (show ¬ (9 : Nat) = 8 by decide))⟩
          · rw [if_neg hi] at hX hme
            exact nine hme hX
