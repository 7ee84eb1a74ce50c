/-! the probe tells what the reference tells: stated here, proved below it -/
theorem fit_eq {A B : List mT} (hA : m_so A) (hB : m_so B) {own : Bool} (ho : own = true → A = B) : c_af A B (m_Us A) (m_Us B) = !m_any (m_bkp own A B) 5 := by
  sorry
