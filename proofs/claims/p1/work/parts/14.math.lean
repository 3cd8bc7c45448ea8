theorem q_days (a b : Int32) : f_X11_days a b = f_X12_days a b := sorry
theorem q_weekday (a : Int32) : f_X11_weekday a = f_X12_weekday a := sorry
theorem q_months (a b c : Int32) : f_X11_months a b c = f_X12_months a b c := sorry
theorem q_business (a : Int32) : f_X11_business a = f_X12_business a := sorry
theorem q_businessFrom (a b : Int32) : f_X11_businessFrom a b = f_X12_businessFrom a b := sorry
theorem q_counted (u w : Int64) (a b c d : Int32) : f_X11_counted u w a b c d = f_X12_counted a b c d := sorry
theorem q_size (a : Int32) : f_X11_size a = f_X12_size a := sorry
