theorem gcd_360 (x : Int32) : gcdS 200 (absL x.toInt64) 360 := sorry
theorem gcn_360 (x : Int32) : ¬ f_X12_common x.toInt64 360 = 0 := sorry
theorem gcd_365 (x : Int32) : gcdS 200 (absL x.toInt64) 365 := sorry
theorem gcn_365 (x : Int32) : ¬ f_X12_common x.toInt64 365 = 0 := sorry
theorem biz_ok (p0 p1 : Int32) (h1 : ¬ f_X12_isDate p0 = 0) (h2 : ¬ f_X12_in p1 (-60) 60 = 0) : bizS 1000 (if 0 ≤ p1 then 1 else (-1)) (if 0 ≤ p1 then p1 else (-p1)) (f_X12_dayOf p0) := sorry
theorem date_ok (p0 p1 : Int32) (h1 : ¬ f_X12_isDate p0 = 0) (h2 : ¬ f_X12_in p1 (-60) 60 = 0) : dateS 8 (f_X12_businessAfter (f_X12_dayOf p0) p1) (f_X12_businessAfter (f_X12_dayOf p0) p1 / 365) := sorry
