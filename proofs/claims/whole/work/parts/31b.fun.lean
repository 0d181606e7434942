-- W ColourLinkerModel.backwards(II)V
def f_Mo_backwards_65 (h0 : Nat) (μ : mM) : Option (mM) :=
  some (μ)

def f_Mo_backwards (h0 : Nat) (μ : mM) (x1 : Int32) (x2 : Int32) : Option (mM) :=
  ((mrc μ (some h0) 11).bind fun a => f_Mo_grid μ a x1 (9 : Int32) x2).bind fun q1 =>
  ((mrc μ (some h0) 11).bind fun a => f_Mo_single μ a x1).bind fun q2 =>
  if q2 = 0 then
    if q1 ≤ 0 then
      ((mrc μ (some h0) 11).bind fun a => f_Mo_putMatrix a μ (10 : Int32) x1).bind fun q3 =>
      ((mrc q3 (some h0) 11).bind fun a => f_Mo_putCurves a q3 (11 : Int32) x1).bind fun q4 =>
      f_Mo_backwards_65 h0 q4
    else
      ((mrc μ (some h0) 11).bind fun a => f_Mo_put a μ (3 : Int32) x1 q1 (0 : Int32)).bind fun q5 =>
      f_Mo_backwards_65 h0 q5
  else
    ((mrc μ (some h0) 11).bind fun a => f_Mo_put a μ (9 : Int32) x1 (0 : Int32) (0 : Int32)).bind fun q6 =>
    ((mrc q6 (some h0) 11).bind fun a => f_Mo_putCurves a q6 (11 : Int32) x1).bind fun q7 =>
    f_Mo_backwards_65 h0 q7

-- W ColourLinkerModel.passage(IIIZ)V
def f_Mo_passage_180 (h0 : Nat) (μ : mM) (x2 : Int32) (x3 : Int32) : Option (mM) :=
  ((mrc μ (some h0) 11).bind fun a => f_Mo_backwards a μ x2 x3).bind fun q10 =>
  some (q10)

def f_Mo_passage_174 (h0 : Nat) (μ : mM) (x2 : Int32) (x3 : Int32) (s0 : Option Nat) (s1 : Int32) : Option (mM) :=
  ((mrc μ (s0) 11).bind fun a => f_Mo_put a μ s1 x2 (0 : Int32) (0 : Int32)).bind fun q9 =>
  f_Mo_passage_180 h0 q9 x2 x3

def f_Mo_passage_152 (h0 : Nat) (μ : mM) (x2 : Int32) (x3 : Int32) (x11 : Int32) : Option (mM) :=
  ((mrc μ (some h0) 11).bind fun a => f_Mo_lab μ a x2).bind fun q8 =>
  if x11 = q8 then
    f_Mo_passage_180 h0 μ x2 x3
  else
    if x11 = 0 then
      f_Mo_passage_174 h0 μ x2 x3 (some h0) (5 : Int32)
    else
      f_Mo_passage_174 h0 μ x2 x3 (some h0) (6 : Int32)

def f_Mo_passage_146 (h0 : Nat) (μ : mM) (x2 : Int32) (x3 : Int32) (x7 : Int64) (x11 : Int32) (s0 : Option Nat) (s1 : Int32) (s2 : Int32) (s3 : Int32) : Option (mM) :=
  ((mrc μ (s0) 11).bind fun a => f_Mo_put a μ s1 s2 s3 ((x7).toInt32)).bind fun q7 =>
  f_Mo_passage_152 h0 q7 x2 x3 x11

def f_Mo_passage_133 (h0 : Nat) (μ : mM) (x1 : Int32) (x2 : Int32) (x3 : Int32) (x5 : Int64) (x7 : Int64) (x9 : Int32) (x11 : Int32) (s0 : Option Nat) (s1 : Int32) : Option (mM) :=
  if x9 = 0 then
    f_Mo_passage_146 h0 μ x2 x3 x7 x11 s0 s1 x1 ((x5).toInt32)
  else
    f_Mo_passage_146 h0 μ x2 x3 x7 x11 s0 s1 x1 x2

def f_Mo_passage_117 (h0 : Nat) (μ : mM) (x1 : Int32) (x2 : Int32) (x3 : Int32) (x5 : Int64) (x7 : Int64) (x9 : Int32) : Option (mM) :=
  if x9 = 0 then
    f_Mo_passage_133 h0 μ x1 x2 x3 x5 x7 x9 (0 : Int32) (some h0) (8 : Int32)
  else
    f_Mo_passage_133 h0 μ x1 x2 x3 x5 x7 x9 (0 : Int32) (some h0) (7 : Int32)

def f_Mo_passage_83 (h0 : Nat) (μ : mM) (x1 : Int32) (x2 : Int32) (x3 : Int32) (x5 : Int64) (x7 : Int64) (x9 : Int32) (s0 : Int32) : Option (mM) :=
  ((mrc μ (some h0) 11).bind fun a => f_Mo_forth a μ x1 x3).bind fun q4 =>
  ((mrc q4 (some h0) 11).bind fun a => f_Mo_lab q4 a x1).bind fun q5 =>
  if s0 = 0 then
    f_Mo_passage_152 h0 q4 x2 x3 q5
  else
    if q5 = 0 then
      f_Mo_passage_117 h0 q4 x1 x2 x3 x5 x7 x9
    else
      ((mrc q4 (some h0) 11).bind fun a => f_Mo_put a q4 (6 : Int32) x1 (0 : Int32) (0 : Int32)).bind fun q6 =>
      f_Mo_passage_117 h0 q6 x1 x2 x3 x5 x7 x9

def f_Mo_passage_78 (h0 : Nat) (μ : mM) (x1 : Int32) (x2 : Int32) (x3 : Int32) (x5 : Int64) (x7 : Int64) (x9 : Int32) : Option (mM) :=
  f_Mo_passage_83 h0 μ x1 x2 x3 x5 x7 x9 (1 : Int32)

def f_Mo_passage_63 (h0 : Nat) (μ : mM) (x1 : Int32) (x2 : Int32) (x3 : Int32) (x5 : Int64) (x7 : Int64) (s0 : Int32) : Option (mM) :=
  if s0 = 0 then
    if x5 = x7 then
      f_Mo_passage_83 h0 μ x1 x2 x3 x5 x7 s0 (0 : Int32)
    else
      f_Mo_passage_78 h0 μ x1 x2 x3 x5 x7 s0
  else
    f_Mo_passage_78 h0 μ x1 x2 x3 x5 x7 s0

def f_Mo_passage_62 (h0 : Nat) (μ : mM) (x1 : Int32) (x2 : Int32) (x3 : Int32) (x5 : Int64) (x7 : Int64) : Option (mM) :=
  f_Mo_passage_63 h0 μ x1 x2 x3 x5 x7 (0 : Int32)

def f_Mo_passage_42 (h0 : Nat) (μ : mM) (x1 : Int32) (x2 : Int32) (x3 : Int32) (x5 : Int64) (s0 : Int64) : Option (mM) :=
  if x3 = (3 : Int32) then
    ((mrc μ (some h0) 11).bind fun a => f_Mo_otherWhite μ a x1 x2).bind fun q3 =>
    if q3 = 0 then
      f_Mo_passage_62 h0 μ x1 x2 x3 x5 s0
    else
      f_Mo_passage_63 h0 μ x1 x2 x3 x5 s0 (1 : Int32)
  else
    f_Mo_passage_62 h0 μ x1 x2 x3 x5 s0

def f_Mo_passage_41 (h0 : Nat) (μ : mM) (x1 : Int32) (x2 : Int32) (x3 : Int32) (x5 : Int64) : Option (mM) :=
  f_Mo_passage_42 h0 μ x1 x2 x3 x5 (0 : Int64)

def f_Mo_passage_20 (h0 : Nat) (μ : mM) (x1 : Int32) (x2 : Int32) (x3 : Int32) (x4 : Int32) (s0 : Int64) : Option (mM) :=
  if x4 = 0 then
    f_Mo_passage_41 h0 μ x1 x2 x3 s0
  else
    if (3 : Int32) ≤ x3 then
      f_Mo_passage_41 h0 μ x1 x2 x3 s0
    else
      ((mrc μ (some h0) 11).bind fun a => f_Mo_blackLevel a μ x2 x3).bind fun q2 =>
      f_Mo_passage_42 h0 q2.2 x1 x2 x3 s0 q2.1

def f_Mo_passage_19 (h0 : Nat) (μ : mM) (x1 : Int32) (x2 : Int32) (x3 : Int32) (x4 : Int32) : Option (mM) :=
  f_Mo_passage_20 h0 μ x1 x2 x3 x4 (0 : Int64)

def f_Mo_passage (h0 : Nat) (μ : mM) (x1 : Int32) (x2 : Int32) (x3 : Int32) (x4 : Int32) : Option (mM) :=
  if x4 = 0 then
    f_Mo_passage_19 h0 μ x1 x2 x3 x4
  else
    if (3 : Int32) ≤ x3 then
      f_Mo_passage_19 h0 μ x1 x2 x3 x4
    else
      ((mrc μ (some h0) 11).bind fun a => f_Mo_blackLevel a μ x1 x3).bind fun q1 =>
      f_Mo_passage_20 h0 q1.2 x1 x2 x3 x4 q1.1

-- W ColourLinkerModel.lay(I)V
def f_Mo_lay_95 (h0 : Nat) (μ : mM) : Option (mM) :=
  some (μ)

def f_Mo_lay_37 (h0 : Nat) (kx95 : mM → Option (mM)) : Nat → mM → Int32 → Option (mM)
  | 0, _, _ => none
  | n + 1, μ, x3 =>
  if x3 < 0 then
    kx95 μ
  else
    (mfA μ (some h0) [11] 5).bind fun v6 =>
    (mfA μ (some h0) [11] 17).bind fun v7 =>
    (mgI μ (v7) x3).bind fun v8 =>
    (mgI μ (v6) v8).bind fun v9 =>
    (mfA μ (some h0) [11] 6).bind fun v10 =>
    (mfA μ (some h0) [11] 17).bind fun v11 =>
    (mgI μ (v11) x3).bind fun v12 =>
    (mgI μ (v10) v12).bind fun v13 =>
    (mfA μ (some h0) [11] 7).bind fun v14 =>
    (mfA μ (some h0) [11] 17).bind fun v15 =>
    (mgI μ (v15) x3).bind fun v16 =>
    (mgI μ (v14) v16).bind fun v17 =>
    (mfA μ (some h0) [11] 8).bind fun v18 =>
    (mfA μ (some h0) [11] 17).bind fun v19 =>
    (mgI μ (v19) x3).bind fun v20 =>
    (mgZ μ (v18) v20).bind fun v21 =>
    ((mrc μ (some h0) 11).bind fun a => f_Mo_passage a μ v9 v13 v17 v21).bind fun q22 =>
    f_Mo_lay_37 h0 kx95 n q22 (x3 + (-1 : Int32))

def f_Mo_lay_28 (h0 : Nat) (μ : mM) (x2 : Int32) : Option (mM) :=
  (mpI μ (some h0) [11] 16 (0 : Int32)).bind fun m5 =>
  f_Mo_lay_37 h0 (fun μ => f_Mo_lay_95 h0 μ) 4096 m5 (x2 - (1 : Int32))

def f_Mo_lay_4 (h0 : Nat) (kx28 : mM → Int32 → Option (mM)) : Nat → mM → Int32 → Int32 → Option (mM)
  | 0, _, _, _ => none
  | n + 1, μ, x2, x3 =>
  if x3 < 0 then
    kx28 μ x2
  else
    (mfA μ (some h0) [11] 17).bind fun v1 =>
    (msI μ (v1) x2 x3).bind fun m2 =>
    (mfA m2 (some h0) [11] 4).bind fun v3 =>
    (mgI m2 (v3) x3).bind fun v4 =>
    f_Mo_lay_4 h0 kx28 n m2 (x2 + (1 : Int32)) v4

def f_Mo_lay (h0 : Nat) (μ : mM) (x1 : Int32) : Option (mM) :=
  f_Mo_lay_4 h0 (fun μ y2 => f_Mo_lay_28 h0 μ y2) 4096 μ (0 : Int32) x1

-- W ColourLinkerModel.make(IIIIZ)I
def f_Mo_make_128 (h0 : Nat) (μ : mM) (x1 : Int32) (x2 : Int32) (x3 : Int32) (x4 : Int32) (x6 : Int32) : Option (Int32 × mM) :=
  ((mrc μ (some h0) 11).bind fun a => f_Mo_lay a μ x1).bind fun q13 =>
  ((mrc q13 (some h0) 11).bind fun a => f_Mo_passage a q13 x2 x3 x4 x6).bind fun q14 =>
  (mfI q14 (some h0) [11] 16).bind fun v15 =>
  if v15 ≤ (24 : Int32) then
    (mfI q14 (some h0) [11] 10).bind fun v16 =>
    if v16 = (16 : Int32) then
      some ((-8 : Int32), q14)
    else
      (mfA q14 (some h0) [11] 4).bind fun v17 =>
      (mfI q14 (some h0) [11] 10).bind fun v18 =>
      (msI q14 (v17) v18 x1).bind fun m19 =>
      (mfA m19 (some h0) [11] 5).bind fun v20 =>
      (mfI m19 (some h0) [11] 10).bind fun v21 =>
      (msI m19 (v20) v21 x2).bind fun m22 =>
      (mfA m22 (some h0) [11] 6).bind fun v23 =>
      (mfI m22 (some h0) [11] 10).bind fun v24 =>
      (msI m22 (v23) v24 x3).bind fun m25 =>
      (mfA m25 (some h0) [11] 7).bind fun v26 =>
      (mfI m25 (some h0) [11] 10).bind fun v27 =>
      (msI m25 (v26) v27 x4).bind fun m28 =>
      (mfA m28 (some h0) [11] 8).bind fun v29 =>
      (mfI m28 (some h0) [11] 10).bind fun v30 =>
      (msZ m28 (v29) v30 x6).bind fun m31 =>
      (mfA m31 (some h0) [11] 9).bind fun v32 =>
      (mfI m31 (some h0) [11] 10).bind fun v33 =>
      (msJ m31 (v32) v33 (-1 : Int64)).bind fun m34 =>
      (mfI m34 (some h0) [11] 10).bind fun v35 =>
      (mpI m34 (some h0) [11] 10 (v35 + (1 : Int32))).bind fun m36 =>
      (mfI m36 (some h0) [11] 10).bind fun v37 =>
      some ((v37 - (1 : Int32)), m36)
  else
    some ((-9 : Int32), q14)

def f_Mo_make_122 (h0 : Nat) (k : mM → Int32 → Int32 → Int32 → Int32 → Int32 → Int32 → Option (Int32 × mM)) (kx128 : mM → Int32 → Int32 → Int32 → Int32 → Int32 → Option (Int32 × mM)) (μ : mM) (x1 : Int32) (x2 : Int32) (x3 : Int32) (x4 : Int32) (x6 : Int32) (x8 : Int32) : Option (Int32 × mM) :=
  k μ x1 x2 x3 x4 x6 (x8 + (1 : Int32))

def f_Mo_make_88 (h0 : Nat) (k : mM → Int32 → Int32 → Int32 → Int32 → Int32 → Int32 → Option (Int32 × mM)) (kx128 : mM → Int32 → Int32 → Int32 → Int32 → Int32 → Option (Int32 × mM)) (μ : mM) (x1 : Int32) (x2 : Int32) (x3 : Int32) (x4 : Int32) (x6 : Int32) (x8 : Int32) (s0 : Int32) : Option (Int32 × mM) :=
  if s0 = 0 then
    f_Mo_make_122 h0 k kx128 μ x1 x2 x3 x4 x6 x8
  else
    (mfA μ (some h0) [11] 7).bind fun v9 =>
    (mgI μ (v9) x8).bind fun v10 =>
    if v10 = x4 then
      (mfA μ (some h0) [11] 8).bind fun v11 =>
      (mgZ μ (v11) x8).bind fun v12 =>
      if v12 = x6 then
        some (x8, μ)
      else
        f_Mo_make_122 h0 k kx128 μ x1 x2 x3 x4 x6 x8
    else
      f_Mo_make_122 h0 k kx128 μ x1 x2 x3 x4 x6 x8

def f_Mo_make_87 (h0 : Nat) (k : mM → Int32 → Int32 → Int32 → Int32 → Int32 → Int32 → Option (Int32 × mM)) (kx128 : mM → Int32 → Int32 → Int32 → Int32 → Int32 → Option (Int32 × mM)) (μ : mM) (x1 : Int32) (x2 : Int32) (x3 : Int32) (x4 : Int32) (x6 : Int32) (x8 : Int32) : Option (Int32 × mM) :=
  f_Mo_make_88 h0 k kx128 μ x1 x2 x3 x4 x6 x8 (0 : Int32)

def f_Mo_make_41 (h0 : Nat) (kx128 : mM → Int32 → Int32 → Int32 → Int32 → Int32 → Option (Int32 × mM)) : Nat → mM → Int32 → Int32 → Int32 → Int32 → Int32 → Int32 → Option (Int32 × mM)
  | 0, _, _, _, _, _, _, _ => none
  | n + 1, μ, x1, x2, x3, x4, x6, x8 =>
  (mfI μ (some h0) [11] 10).bind fun v2 =>
  if v2 ≤ x8 then
    kx128 μ x1 x2 x3 x4 x6
  else
    (mfA μ (some h0) [11] 4).bind fun v3 =>
    (mgI μ (v3) x8).bind fun v4 =>
    if v4 = x1 then
      (mfA μ (some h0) [11] 5).bind fun v5 =>
      (mgI μ (v5) x8).bind fun v6 =>
      if v6 = x2 then
        (mfA μ (some h0) [11] 6).bind fun v7 =>
        (mgI μ (v7) x8).bind fun v8 =>
        if v8 = x3 then
          f_Mo_make_88 h0 (f_Mo_make_41 h0 kx128 n) kx128 μ x1 x2 x3 x4 x6 x8 (1 : Int32)
        else
          f_Mo_make_87 h0 (f_Mo_make_41 h0 kx128 n) kx128 μ x1 x2 x3 x4 x6 x8
      else
        f_Mo_make_87 h0 (f_Mo_make_41 h0 kx128 n) kx128 μ x1 x2 x3 x4 x6 x8
    else
      f_Mo_make_87 h0 (f_Mo_make_41 h0 kx128 n) kx128 μ x1 x2 x3 x4 x6 x8

def f_Mo_make_16 (h0 : Nat) (μ : mM) (x1 : Int32) (x2 : Int32) (x3 : Int32) (x4 : Int32) (s0 : Int32) : Option (Int32 × mM) :=
  ((mrc μ (some h0) 11).bind fun a => f_Mo_refusal a μ x2 x3 x4 s0).bind fun q1 =>
  if 0 ≤ q1.1 then
    f_Mo_make_41 h0 (fun μ y1 y2 y3 y4 y6 => f_Mo_make_128 h0 μ y1 y2 y3 y4 y6) 4096 q1.2 x1 x2 x3 x4 s0 (0 : Int32)
  else
    some (q1.1, q1.2)

def f_Mo_make_15 (h0 : Nat) (μ : mM) (x1 : Int32) (x2 : Int32) (x3 : Int32) (x4 : Int32) : Option (Int32 × mM) :=
  f_Mo_make_16 h0 μ x1 x2 x3 x4 (0 : Int32)

def f_Mo_make (h0 : Nat) (μ : mM) (x1 : Int32) (x2 : Int32) (x3 : Int32) (x4 : Int32) (x5 : Int32) : Option (Int32 × mM) :=
  if x5 = 0 then
    f_Mo_make_15 h0 μ x1 x2 x3 x4
  else
    if x4 = (3 : Int32) then
      f_Mo_make_15 h0 μ x1 x2 x3 x4
    else
      f_Mo_make_16 h0 μ x1 x2 x3 x4 (1 : Int32)

