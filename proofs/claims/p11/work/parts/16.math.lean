theorem q_business (a : Int32) : f_X11_business a = f_X12_business a := by
  simp only [f_X11_business, f_X12_business, f_X5_isBusinessDay, f_X12_isBusiness, f_X12_good, q_isDate, q_day]
  by_cases h : f_X12_isDate a = 0
  · rw [if_pos h, if_pos h]
  · rw [if_neg h, if_neg h]
    have r := day_range h
    have w := wd_both (c := f_X12_dayOf a) (by omega) (by omega)
    rw [w]
    exact biz_v _

theorem q_businessFrom (a b : Int32) : f_X11_businessFrom a b = f_X12_businessFrom a b := by
  simp only [f_X11_businessFrom, f_X12_businessFrom, f_X12_good, q_isDate, q_day, in_if, le_lt b 60]
  by_cases h : f_X12_isDate a = 0
  · rw [if_pos h, if_pos h]
  · rw [if_neg h, if_neg h]
    obtain ⟨s1, s2, s3⟩ := biz_rng a b h
    rw [s1, (num_eq s2 s3).2]

theorem thirty_eq {a b : Int32} (h : ¬ f_X12_isDate a = 0) : f_X6_thirtyDays 1 a b = f_X12_thirties a b 1 ∧ ∀ k, ¬ k = 1 → f_X6_thirtyDays k a b = f_X12_thirties a b 0 := by
  rcases dd_31 h with ⟨c1, c2⟩ | ⟨c1, c2⟩
  · constructor
    · simp only [f_X6_thirtyDays, f_X12_thirties, if_pos c1, if_pos c2]
      split <;> rfl
    · intro k hk
      simp only [f_X6_thirtyDays, f_X12_thirties, if_pos c1, if_pos c2, if_neg hk]
      split <;> rfl
  · constructor
    · simp only [f_X6_thirtyDays, f_X12_thirties, if_neg c1, if_neg c2]
      split <;> rfl
    · intro k hk
      simp only [f_X6_thirtyDays, f_X12_thirties, if_neg c1, if_neg c2, if_neg hk]
      split <;> (try split) <;> rfl

theorem set_cnt (u w : Int64) {a b c : Int32} (hb : ¬ f_X12_isDate b = 0) (hc : ¬ f_X12_isDate c = 0) : f_X6_setCounted u w a (f_X12_dayOf b - 723120) (f_X12_dayOf c - 723120) = f_X12_countsPlain a b c := by
  have e : (f_X12_dayOf c - 723120) - (f_X12_dayOf b - 723120) = f_X12_dayOf c - f_X12_dayOf b := by grind
  unfold f_X6_setCounted f_X12_countsPlain
  rw [e, num_day hb, num_day hc]
  by_cases c2 : a = 2
  · rw [if_pos c2, if_pos c2, set_360]
  rw [if_neg c2, if_neg c2]
  by_cases c3 : a = 3
  · rw [if_pos c3, if_pos c3, set_365]
  rw [if_neg c3, if_neg c3]
  obtain ⟨t1, t2⟩ := thirty_eq (b := c) hb
  by_cases c1 : a = 1
  · rw [if_pos c1, c1]
    show ((f_X6_set u w (f_X6_thirtyDays 1 b c).toInt64 360).1, (f_X6_set u w (f_X6_thirtyDays 1 b c).toInt64 360).2) = ((f_X12_sets (f_X12_thirties b c 1).toInt64 360).1, (f_X12_sets (f_X12_thirties b c 1).toInt64 360).2)
    rw [t1, set_360]
  · rw [if_neg c1]
    show ((f_X6_set u w (f_X6_thirtyDays a b c).toInt64 360).1, (f_X6_set u w (f_X6_thirtyDays a b c).toInt64 360).2) = ((f_X12_sets (f_X12_thirties b c 0).toInt64 360).1, (f_X12_sets (f_X12_thirties b c 0).toInt64 360).2)
    rw [t2 a c1, set_360]
theorem q_counted (u w : Int64) (a b c d : Int32) : f_X11_counted u w a b c d = f_X12_counted a b c d := by
  unfold f_X11_counted f_X12_counted
  rw [in_if, q_isDate, q_isDate, q_day, q_day, le_lt a 3]
  by_cases c1 : a < 0
  · rw [if_pos c1, if_pos c1]; rfl
  rw [if_neg c1, if_neg c1]
  by_cases c2 : 3 < a
  · rw [if_pos c2, if_pos c2]; rfl
  rw [if_neg c2, if_neg c2]
  by_cases c3 : f_X12_isDate b = 0
  · rw [if_pos c3, if_pos c3]; rfl
  rw [if_neg c3, if_neg c3]
  by_cases c4 : f_X12_isDate c = 0
  · rw [if_pos c4, if_pos c4]; rfl
  rw [if_neg c4, if_neg c4]
  by_cases c5 : b ≤ c
  · rw [if_pos c5, if_pos c5]
    show f_X6_part (f_X6_setCounted u w a (f_X12_dayOf b - 723120) (f_X12_dayOf c - 723120)).1 (f_X6_setCounted u w a (f_X12_dayOf b - 723120) (f_X12_dayOf c - 723120)).2 d = f_X12_part (f_X12_countsPlain a b c).1 (f_X12_countsPlain a b c).2 d
    rw [set_cnt u w c3 c4]
    rfl
  · rw [if_neg c5, if_neg c5]; rfl

