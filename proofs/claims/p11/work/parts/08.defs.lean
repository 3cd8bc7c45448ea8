def f_X11_days (p0 : Int32) (p1 : Int32) : Int32 :=
  let r_1 : Int32 := f_X3_isDate p0
  if r_1 = 0 then
    (-2147483648)
  else
    let r_3 : Int32 := f_X3_isDate p1
    if r_3 = 0 then
      (-2147483648)
    else
      let r_5 : Int32 := f_X3_dayOf p1
      let r_6 : Int32 := f_X3_dayOf p0
      (r_5 - r_6)
def f_X11_weekday (p0 : Int32) : Int32 :=
  let r_1 : Int32 := f_X3_isDate p0
  if r_1 = 0 then
    (-1)
  else
    let r_3 : Int32 := f_X3_dayOf p0
    let r_4 : Int32 := f_X3_weekdayOf r_3
    r_4
def f_X11_months (p0 : Int32) (p1 : Int32) (p2 : Int32) : Int32 :=
  let r_1 : Int32 := f_X3_isDate p0
  if r_1 = 0 then
    (-1)
  else
    if p1 < (-120) then
      (-1)
    else
      if p1 ≤ 120 then
        let r_7 : Int32 := f_X3_monthsFrom p0 p1 p2
        r_7
      else
        (-1)
def f_X11_size (p0 : Int32) : Int32 :=
  if p0 = 0 then
    0
  else
    if p0 = 1 then
      0
    else
      if p0 = 2 then
        0
      else
        if p0 = 3 then
          0
        else
          if p0 = 4 then
            0
          else
            (-1)
def f_X12_good (p0 : Int32) : Int32 :=
  p0
def f_X12_refusedLong (p0 : Int32) (p1 : Int64) : Int64 :=
  p1
def f_X12_goodLong (p0 : Int64) : Int64 :=
  let r_1 : Int32 := f_X12_good 0
  p0
def f_X12_days (p0 : Int32) (p1 : Int32) : Int32 :=
  let r_1 : Int32 := f_X12_isDate p0
  if r_1 = 0 then
    (-2147483648)
  else
    let r_4 : Int32 := f_X12_isDate p1
    if r_4 = 0 then
      (-2147483648)
    else
      let r_6 : Int32 := f_X12_dayOf p1
      let r_7 : Int32 := f_X12_dayOf p0
      let r_8 : Int32 := f_X12_good (r_6 - r_7)
      r_8
def f_X12_weekday (p0 : Int32) : Int32 :=
  let r_1 : Int32 := f_X12_isDate p0
  if r_1 = 0 then
    (-1)
  else
    let r_3 : Int32 := f_X12_dayOf p0
    let r_4 : Int32 := f_X12_weekdayOf r_3
    let r_5 : Int32 := f_X12_good r_4
    r_5
def f_X12_months (p0 : Int32) (p1 : Int32) (p2 : Int32) : Int32 :=
  let r_1 : Int32 := f_X12_isDate p0
  if r_1 = 0 then
    (-1)
  else
    let r_4 : Int32 := f_X12_in p1 (-120) 120
    if r_4 = 0 then
      (-1)
    else
      if p2 = 0 then
        let r_7 : Int32 := f_X12_monthsFrom p0 p1 0
        let r_8 : Int32 := f_X12_good r_7
        r_8
      else
        let r_9 : Int32 := f_X12_isMonthEnd p0
        if r_9 = 0 then
          let r_11 : Int32 := f_X12_monthsFrom p0 p1 0
          let r_12 : Int32 := f_X12_good r_11
          r_12
        else
          let r_13 : Int32 := f_X12_monthsFrom p0 p1 1
          let r_14 : Int32 := f_X12_good r_13
          r_14
def f_X12_size (p0 : Int32) : Int32 :=
  if p0 = 0 then
    0
  else
    if p0 = 1 then
      0
    else
      if p0 = 2 then
        0
      else
        if p0 = 3 then
          0
        else
          if p0 = 4 then
            0
          else
            (-1)
def f_X6_set (u0 : Int64) (w0 : Int64) (p0 : Int64) (p1 : Int64) : Int64 × Int64 :=
  if 0 ≤ (lg_cmp p0 0) then
    let r_2 : Int64 := f_X6_commonDivisor p0 p1
    if 0 ≤ (lg_cmp r_2 1) then
      let x_4 : Int64 := (p0 / r_2)
      let x_5 : Int64 := (p1 / r_2)
      (x_4, x_5)
    else
      (0, 1)
  else
    let r_6 : Int64 := f_X6_commonDivisor (-p0) p1
    if 0 ≤ (lg_cmp r_6 1) then
      let x_8 : Int64 := (p0 / r_6)
      let x_9 : Int64 := (p1 / r_6)
      (x_8, x_9)
    else
      (0, 1)
def f_X12_sets (p0 : Int64) (p1 : Int64) : Int64 × Int64 :=
  let r_1 : Int64 := f_X12_common p0 p1
  let x_2 : Int64 := (p0 / r_1)
  let x_3 : Int64 := (p1 / r_1)
  (x_2, x_3)
def f_X5_isBusinessDay (p0 : Int32) : Int32 :=
  let r_1 : Int32 := f_X3_weekdayOf p0
  if 5 ≤ r_1 then
    0
  else
    1
/-- n BUSINESS DAYS on (or back), as the class goes -/
def bizN : Nat → Int32 → Int32 → Int32 → Int32
  | 0, _, _, a => a
  | n + 1, s, l, a => if l ≤ 0 then a else if f_X5_isBusinessDay (a + s) = 0 then bizN n s l (a + s) else bizN n s (l + (-1)) (a + s)
def f_X5_businessDaysFrom (p0 : Int32) (p1 : Int32) : Int32 :=
  if 0 ≤ p1 then
    bizN 1000 1 p1 p0
  else
    let x_13 : Int32 := (-p1)
    bizN 1000 (-1) x_13 p0
def f_X12_isBusiness (p0 : Int32) : Int32 :=
  let r_1 : Int32 := f_X12_weekdayOf p0
  if r_1 ≤ 4 then
    1
  else
    0
/-- as the reference goes; and that it ends within n steps -/
def bizM : Nat → Int32 → Int32 → Int32 → Int32
  | 0, _, _, a => a
  | n + 1, s, l, a => if l ≤ 0 then a else if f_X12_isBusiness (a + s) = 0 then bizM n s (l - 0) (a + s) else bizM n s (l - 1) (a + s)
def bizS : Nat → Int32 → Int32 → Int32 → Prop
  | 0, _, l, _ => l ≤ 0
  | n + 1, s, l, a => ¬ l ≤ 0 → (f_X12_isBusiness (a + s) = 0 → bizS n s (l - 0) (a + s)) ∧ (¬ f_X12_isBusiness (a + s) = 0 → bizS n s (l - 1) (a + s))
/-- the year of a day, going back; and that it ends within n steps -/
def dateY : Nat → Int32 → Int32 → Int32
  | 0, _, y => y
  | n + 1, d, y => if f_X12_march y ≤ d then y else dateY n d (y + (-1))
def dateS : Nat → Int32 → Int32 → Prop
  | 0, d, y => f_X12_march y ≤ d
  | n + 1, d, y => ¬ f_X12_march y ≤ d → dateS n d (y + (-1))
def dateT (d y : Int32) : Int32 :=
  let r : Int32 := f_X12_march y
  let x2 : Int32 := (d - r)
  let x3 : Int32 := (((5 * x2) + 2) / 153)
  let x4 : Int32 := ((x2 - (((153 * x3) + 2) / 5)) + 1)
  if 10 ≤ x3 then (((10000 * (y + 1)) + (100 * (x3 - 9))) + x4) else (((10000 * y) + (100 * (x3 + 3))) + x4)
def f_X12_businessAfter (p0 : Int32) (p1 : Int32) : Int32 :=
  if 0 ≤ p1 then
    bizM 1000 1 p1 p0
  else
    let x_11 : Int32 := (-p1)
    bizM 1000 (-1) x_11 p0
def f_X12_dateOf (p0 : Int32) : Int32 :=
  let x_1 : Int32 := (p0 / 365)
  dateT p0 (dateY 8 p0 x_1)
def f_X6_part (u0 : Int64) (w0 : Int64) (p0 : Int32) : Int64 :=
  if p0 = 0 then
    u0
  else
    w0
def f_X6_setCounted (u0 : Int64) (w0 : Int64) (p0 : Int32) (p1 : Int32) (p2 : Int32) : Int64 × Int64 :=
  if p0 = 2 then
    ((f_X6_set u0 w0 ((p2 - p1).toInt64) 360).1, (f_X6_set u0 w0 ((p2 - p1).toInt64) 360).2)
  else
    if p0 = 3 then
      ((f_X6_set u0 w0 ((p2 - p1).toInt64) 365).1, (f_X6_set u0 w0 ((p2 - p1).toInt64) 365).2)
    else
      let r_3 : Int32 := f_X3_numberOf p1
      let r_4 : Int32 := f_X3_numberOf p2
      let r_5 : Int32 := f_X6_thirtyDays p0 r_3 r_4
      ((f_X6_set u0 w0 (r_5.toInt64) 360).1, (f_X6_set u0 w0 (r_5.toInt64) 360).2)
def f_X11_counted (u0 : Int64) (w0 : Int64) (p0 : Int32) (p1 : Int32) (p2 : Int32) (p3 : Int32) : Int64 :=
  if p0 < 0 then
    (-1)
  else
    if p0 ≤ 3 then
      let r_4 : Int32 := f_X3_isDate p1
      if r_4 = 0 then
        (-1)
      else
        let r_7 : Int32 := f_X3_isDate p2
        if r_7 = 0 then
          (-1)
        else
          if p1 ≤ p2 then
            let r_11 : Int32 := f_X3_dayOf p1
            let r_12 : Int32 := f_X3_dayOf p2
            let r_14 : Int64 := f_X6_part ((f_X6_setCounted u0 w0 p0 r_11 r_12).1) ((f_X6_setCounted u0 w0 p0 r_11 r_12).2) p3
            r_14
          else
            (-1)
    else
      (-1)
def f_X12_part (vu : Int64) (vl : Int64) (p0 : Int32) : Int64 :=
  if p0 = 0 then
    let r_2 : Int64 := f_X12_goodLong vu
    r_2
  else
    let r_3 : Int64 := f_X12_goodLong vl
    r_3
def f_X12_countsPlain (p0 : Int32) (p1 : Int32) (p2 : Int32) : Int64 × Int64 :=
  let r_1 : Int32 := f_X12_dayOf p2
  let r_2 : Int32 := f_X12_dayOf p1
  let x_3 : Int32 := (r_1 - r_2)
  if p0 = 2 then
    ((f_X12_sets (x_3.toInt64) 360).1, (f_X12_sets (x_3.toInt64) 360).2)
  else
    if p0 = 3 then
      ((f_X12_sets (x_3.toInt64) 365).1, (f_X12_sets (x_3.toInt64) 365).2)
    else
      if p0 = 1 then
        let r_9 : Int32 := f_X12_thirties p1 p2 1
        ((f_X12_sets (r_9.toInt64) 360).1, (f_X12_sets (r_9.toInt64) 360).2)
      else
        let r_7 : Int32 := f_X12_thirties p1 p2 0
        ((f_X12_sets (r_7.toInt64) 360).1, (f_X12_sets (r_7.toInt64) 360).2)
def f_X12_counted (p0 : Int32) (p1 : Int32) (p2 : Int32) (p3 : Int32) : Int64 :=
  let r_1 : Int32 := f_X12_in p0 0 3
  if r_1 = 0 then
    let r_13 : Int64 := f_X12_refusedLong 1 (-1)
    r_13
  else
    let r_3 : Int32 := f_X12_isDate p1
    if r_3 = 0 then
      let r_5 : Int64 := f_X12_refusedLong 2 (-1)
      r_5
    else
      let r_6 : Int32 := f_X12_isDate p2
      if r_6 = 0 then
        let r_8 : Int64 := f_X12_refusedLong 2 (-1)
        r_8
      else
        if p1 ≤ p2 then
          let r_11 : Int64 := f_X12_part ((f_X12_countsPlain p0 p1 p2).1) ((f_X12_countsPlain p0 p1 p2).2) p3
          r_11
        else
          let r_12 : Int64 := f_X12_refusedLong 2 (-1)
          r_12
def f_X11_business (p0 : Int32) : Int32 :=
  let r_1 : Int32 := f_X3_isDate p0
  if r_1 = 0 then
    (-1)
  else
    let r_3 : Int32 := f_X3_dayOf p0
    let r_4 : Int32 := f_X5_isBusinessDay r_3
    if r_4 = 0 then
      0
    else
      1
def f_X12_business (p0 : Int32) : Int32 :=
  let r_1 : Int32 := f_X12_isDate p0
  if r_1 = 0 then
    (-1)
  else
    let r_3 : Int32 := f_X12_dayOf p0
    let r_4 : Int32 := f_X12_isBusiness r_3
    if r_4 = 0 then
      let r_6 : Int32 := f_X12_good 0
      r_6
    else
      let r_7 : Int32 := f_X12_good 1
      r_7
def f_X11_businessFrom (p0 : Int32) (p1 : Int32) : Int32 :=
  let r_1 : Int32 := f_X3_isDate p0
  if r_1 = 0 then
    (-1)
  else
    if p1 < (-60) then
      (-1)
    else
      if p1 ≤ 60 then
        let r_7 : Int32 := f_X3_dayOf p0
        let r_8 : Int32 := f_X5_businessDaysFrom r_7 p1
        let r_9 : Int32 := f_X3_numberOf r_8
        r_9
      else
        (-1)
def f_X12_businessFrom (p0 : Int32) (p1 : Int32) : Int32 :=
  let r_1 : Int32 := f_X12_isDate p0
  if r_1 = 0 then
    (-1)
  else
    let r_4 : Int32 := f_X12_in p1 (-60) 60
    if r_4 = 0 then
      (-1)
    else
      let r_6 : Int32 := f_X12_dayOf p0
      let r_7 : Int32 := f_X12_businessAfter r_6 p1
      let r_8 : Int32 := f_X12_dateOf r_7
      let r_9 : Int32 := f_X12_good r_8
      r_9
