theorem in01 (a b c : Int32) : f_X12_in a b c = 0 ∨ f_X12_in a b c = 1 := by
  unfold f_X12_in
  split
  · exact Or.inl rfl
  · split
    · exact Or.inl rfl
    · exact Or.inr rfl
theorem in_none (a : Int32) : f_X12_in a 0 (-1) = 0 := by
  unfold f_X12_in
  split
  · rfl
  · rename_i h
    split
    · rfl
    · rename_i h2
      exact absurd (Int32.lt_of_lt_of_le (by decide : (-1 : Int32) < 0) (Int32.not_lt.mp h)) h2
def f_X11_days (p0 : Int32) (p1 : Int32) : Int32 :=
  let r_1 : Int32 := f_X3_isDate p0
  if r_1 = 0 then
    (-2147483648)
  else
    let r_3 : Int32 := f_X3_isDate p1
    if r_3 = 0 then
      (-2147483648)
    else
      let r_5 : Int32 := f_X3_dayOf p1
      let r_6 : Int32 := f_X3_dayOf p0
      (r_5 - r_6)
def f_X11_weekday (p0 : Int32) : Int32 :=
  let r_1 : Int32 := f_X3_isDate p0
  if r_1 = 0 then
    (-1)
  else
    let r_3 : Int32 := f_X3_dayOf p0
    let r_4 : Int32 := f_X3_weekdayOf r_3
    r_4
def f_X11_months (p0 : Int32) (p1 : Int32) (p2 : Int32) : Int32 :=
  let r_1 : Int32 := f_X3_isDate p0
  if r_1 = 0 then
    (-1)
  else
    if p1 < (-120) then
      (-1)
    else
      if p1 ≤ 120 then
        let r_7 : Int32 := f_X3_monthsFrom p0 p1 p2
        r_7
      else
        (-1)
def f_X11_size (p0 : Int32) : Int32 :=
  if p0 = 0 then
    0
  else
    if p0 = 1 then
      0
    else
      if p0 = 2 then
        0
      else
        if p0 = 3 then
          0
        else
          if p0 = 4 then
            0
          else
            (-1)
def f_X12_good (p0 : Int32) : Int32 :=
  p0
def f_X12_days (p0 : Int32) (p1 : Int32) : Int32 :=
  let r_1 : Int32 := f_X12_isDate p0
  if r_1 = 0 then
    (-2147483648)
  else
    let r_4 : Int32 := f_X12_isDate p1
    if r_4 = 0 then
      (-2147483648)
    else
      let r_6 : Int32 := f_X12_dayOf p1
      let r_7 : Int32 := f_X12_dayOf p0
      let r_8 : Int32 := f_X12_good (r_6 - r_7)
      r_8
def f_X12_weekday (p0 : Int32) : Int32 :=
  let r_1 : Int32 := f_X12_isDate p0
  if r_1 = 0 then
    (-1)
  else
    let r_3 : Int32 := f_X12_dayOf p0
    let r_4 : Int32 := f_X12_weekdayOf r_3
    let r_5 : Int32 := f_X12_good r_4
    r_5
def f_X12_months (p0 : Int32) (p1 : Int32) (p2 : Int32) : Int32 :=
  let r_1 : Int32 := f_X12_isDate p0
  if r_1 = 0 then
    (-1)
  else
    let r_4 : Int32 := f_X12_in p1 (-120) 120
    if r_4 = 0 then
      (-1)
    else
      if p2 = 0 then
        let r_7 : Int32 := f_X12_monthsFrom p0 p1 0
        let r_8 : Int32 := f_X12_good r_7
        r_8
      else
        let r_9 : Int32 := f_X12_isMonthEnd p0
        if r_9 = 0 then
          let r_11 : Int32 := f_X12_monthsFrom p0 p1 0
          let r_12 : Int32 := f_X12_good r_11
          r_12
        else
          let r_13 : Int32 := f_X12_monthsFrom p0 p1 1
          let r_14 : Int32 := f_X12_good r_13
          r_14
def f_X12_size (p0 : Int32) : Int32 :=
  if p0 = 0 then
    0
  else
    if p0 = 1 then
      0
    else
      if p0 = 2 then
        0
      else
        if p0 = 3 then
          0
        else
          if p0 = 4 then
            0
          else
            (-1)
def f_X5_isBusinessDay (p0 : Int32) : Int32 :=
  let r_1 : Int32 := f_X3_weekdayOf p0
  if 5 ≤ r_1 then
    0
  else
    1
def f_X12_isBusiness (p0 : Int32) : Int32 :=
  let r_1 : Int32 := f_X12_weekdayOf p0
  if r_1 ≤ 4 then
    1
  else
    0
