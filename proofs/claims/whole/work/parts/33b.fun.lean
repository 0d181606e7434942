-- W ColourLinkerModel.taken(IIII)Z
def f_Mo_taken_122 (h0 : Nat) (μ : mM) (s0 : Option Nat) (s1 : Int32) (s2 : Int64) : Option (Int32 × mM) :=
  (msJ μ (s0) s1 s2).bind fun m17 =>
  some ((1 : Int32), m17)

def f_Mo_taken_104 (h0 : Nat) (μ : mM) (x4 : Int32) (x6 : Int32) (s0 : Option Nat) (s1 : Int32) (s2 : Int64) : Option (Int32 × mM) :=
  (msJ μ (s0) s1 s2).bind fun m15 =>
  (mfA m15 (some h0) [11] 18).bind fun v16 =>
  if x6 = 0 then
    f_Mo_taken_122 h0 m15 v16 (2 : Int32) ((x4).toInt64)
  else
    f_Mo_taken_122 h0 m15 v16 (2 : Int32) (0 : Int64)

def f_Mo_taken_80 (h0 : Nat) (μ : mM) (x2 : Int32) (x3 : Int32) (x4 : Int32) (x6 : Int32) : Option (Int32 × mM) :=
  (mfA μ (some h0) [11] 18).bind fun v12 =>
  (msJ μ (v12) (0 : Int32) ((x2).toInt64)).bind fun m13 =>
  (mfA m13 (some h0) [11] 18).bind fun v14 =>
  if x6 = 0 then
    f_Mo_taken_104 h0 m13 x4 x6 v14 (1 : Int32) ((x3).toInt64)
  else
    f_Mo_taken_104 h0 m13 x4 x6 v14 (1 : Int32) (0 : Int64)

def f_Mo_taken_78 (h0 : Nat) (μ : mM) : Option (Int32 × mM) :=
  some ((0 : Int32), μ)

def f_Mo_taken_35 (h0 : Nat) (μ : mM) (x2 : Int32) (x3 : Int32) (x4 : Int32) (x5 : Int32) : Option (Int32 × mM) :=
  (mfA μ (some h0) [11] 5).bind fun v6 =>
  (mgI μ (v6) x5).bind fun v7 =>
  ((mrc μ (some h0) 11).bind fun a => f_Mo_single μ a v7).bind fun q8 =>
  ((mrc μ (some h0) 11).bind fun a => f_Mo_level μ a x2).bind fun q9 =>
  if q9 = 0 then
    f_Mo_taken_78 h0 μ
  else
    if q8 = 0 then
      ((mrc μ (some h0) 11).bind fun a => f_Mo_level μ a x3).bind fun q10 =>
      if q10 = 0 then
        f_Mo_taken_78 h0 μ
      else
        ((mrc μ (some h0) 11).bind fun a => f_Mo_level μ a x4).bind fun q11 =>
        if q11 = 0 then
          f_Mo_taken_78 h0 μ
        else
          f_Mo_taken_80 h0 μ x2 x3 x4 q8
    else
      f_Mo_taken_80 h0 μ x2 x3 x4 q8

def f_Mo_taken_13 (h0 : Nat) (kx35 : mM → Int32 → Int32 → Int32 → Int32 → Option (Int32 × mM)) : Nat → mM → Int32 → Int32 → Int32 → Int32 → Option (Int32 × mM)
  | 0, _, _, _, _, _ => none
  | n + 1, μ, x2, x3, x4, x5 =>
  (mfA μ (some h0) [11] 4).bind fun v2 =>
  (mgI μ (v2) x5).bind fun v3 =>
  if v3 < 0 then
    kx35 μ x2 x3 x4 x5
  else
    (mfA μ (some h0) [11] 4).bind fun v4 =>
    (mgI μ (v4) x5).bind fun v5 =>
    f_Mo_taken_13 h0 kx35 n μ x2 x3 x4 v5

def f_Mo_taken (h0 : Nat) (μ : mM) (x1 : Int32) (x2 : Int32) (x3 : Int32) (x4 : Int32) : Option (Int32 × mM) :=
  ((mrc μ (some h0) 11).bind fun a => f_Mo_linked μ a x1).bind fun q1 =>
  if q1 = 0 then
    some ((0 : Int32), μ)
  else
    f_Mo_taken_13 h0 (fun μ y2 y3 y4 y5 => f_Mo_taken_35 h0 μ y2 y3 y4 y5) 4096 μ x2 x3 x4 x1

-- R ColourLinkerModel.colour()J
def f_Mo_colour (μ : mM) (h0 : Nat) : Option (Int64) :=
  (mfA μ (some h0) [11] 18).bind fun v1 =>
  (mgJ μ (v1) (0 : Int32)).bind fun v2 =>
  (mfA μ (some h0) [11] 18).bind fun v3 =>
  (mgJ μ (v3) (1 : Int32)).bind fun v4 =>
  (mfA μ (some h0) [11] 18).bind fun v5 =>
  (mgJ μ (v5) (2 : Int32)).bind fun v6 =>
  some ((((v2 * (4294967296 : Int64)) + (v4 * (65536 : Int64))) + v6))

-- W ColourLinkerModel.through(IIIII)J
def f_Mo_through_32 (h0 : Nat) (μ : mM) : Option (Int64 × mM) :=
  ((mrc μ (some h0) 11).bind fun a => f_Mo_colour μ a).bind fun q3 =>
  some (q3, μ)

def f_Mo_through_14 (h0 : Nat) (kx32 : mM → Option (Int64 × mM)) : Nat → mM → Int32 → Int32 → Option (Int64 × mM)
  | 0, _, _, _ => none
  | n + 1, μ, x2, x6 =>
  if x2 ≤ x6 then
    kx32 μ
  else
    ((mrc μ (some h0) 11).bind fun a => f_Mo_run a μ x6).bind fun q2 =>
    f_Mo_through_14 h0 kx32 n q2 x2 (x6 + (1 : Int32))

def f_Mo_through (h0 : Nat) (μ : mM) (x1 : Int32) (x2 : Int32) (x3 : Int32) (x4 : Int32) (x5 : Int32) : Option (Int64 × mM) :=
  ((mrc μ (some h0) 11).bind fun a => f_Mo_taken a μ x1 x3 x4 x5).bind fun q1 =>
  f_Mo_through_14 h0 (fun μ => f_Mo_through_32 h0 μ) 4096 q1.2 x2 (0 : Int32)

-- W ColourLinkerModel.convert(IIII)J
def f_Mo_convert_56 (h0 : Nat) (μ : mM) (x1 : Int32) (x2 : Int32) (x3 : Int32) (x4 : Int32) (x5 : Int64) (s0 : Option Nat) (s1 : Int32) : Option (Int64 × mM) :=
  (mpI μ (s0) [11] 11 s1).bind fun m9 =>
  (mfA m9 (some h0) [11] 9).bind fun v10 =>
  (msJ m9 (v10) x1 x5).bind fun m11 =>
  (mfI m11 (some h0) [11] 16).bind fun v12 =>
  ((mrc m11 (some h0) 11).bind fun a => f_Mo_through a m11 x1 v12 x2 x3 x4).bind fun q13 =>
  some (q13.1, q13.2)

def f_Mo_convert (h0 : Nat) (μ : mM) (x1 : Int32) (x2 : Int32) (x3 : Int32) (x4 : Int32) : Option (Int64 × mM) :=
  ((mrc μ (some h0) 11).bind fun a => f_Mo_taken a μ x1 x2 x3 x4).bind fun q1 =>
  if q1.1 = 0 then
    some ((-1 : Int64), q1.2)
  else
    ((mrc q1.2 (some h0) 11).bind fun a => f_Mo_colour q1.2 a).bind fun q2 =>
    ((mrc q1.2 (some h0) 11).bind fun a => f_Mo_lay a q1.2 x1).bind fun q3 =>
    (mfA q3 (some h0) [11] 9).bind fun v4 =>
    (mgJ q3 (v4) x1).bind fun v5 =>
    if v5 = q2 then
      (mfI q3 (some h0) [11] 11).bind fun v8 =>
      f_Mo_convert_56 h0 q3 x1 x2 x3 x4 q2 (some h0) v8
    else
      (mfI q3 (some h0) [11] 11).bind fun v6 =>
      (mfI q3 (some h0) [11] 16).bind fun v7 =>
      f_Mo_convert_56 h0 q3 x1 x2 x3 x4 q2 (some h0) (v6 + v7)

-- W ColourLinker.after(IIIII)J
def f_CL_after_40 (h0 : Nat) (μ : mM) : Option (Int64 × mM) :=
  some ((-1 : Int64), μ)

def f_CL_after (h0 : Nat) (μ : mM) (x1 : Int32) (x2 : Int32) (x3 : Int32) (x4 : Int32) (x5 : Int32) : Option (Int64 × mM) :=
  ((mrc μ (some h0) 10).bind fun a => f_CL_linkAt μ a x1).bind fun q1 =>
  if q1 = none then
    f_CL_after_40 h0 μ
  else
    if x2 < 0 then
      f_CL_after_40 h0 μ
    else
      (mfA μ (q1) [7] 6).bind fun v2 =>
      (ml μ (v2)).bind fun v3 =>
      if v3 < x2 then
        f_CL_after_40 h0 μ
      else
        ((mrc μ (some h0) 10).bind fun a => f_CL_take a μ q1 x3 x4 x5).bind fun q4 =>
        if q4.1 = 0 then
          f_CL_after_40 h0 q4.2
        else
          (mfA q4.2 (some h0) [10] 9).bind fun v5 =>
          ((mrc q4.2 (q1) 7).bind fun a => f_Link_runFirst a q4.2 x2 v5).bind fun q6 =>
          (mfA q6 (some h0) [10] 9).bind fun v7 =>
          (f_CL_packed q6 v7).bind fun q8 =>
          some (q8, q6)

-- W ColourLinkerModel.after(IIIII)J
def f_Mo_after_51 (h0 : Nat) (μ : mM) (s0 : Int64) : Option (Int64 × mM) :=
  some (s0, μ)

def f_Mo_after_34 (h0 : Nat) (μ : mM) : Option (Int64 × mM) :=
  f_Mo_after_51 h0 μ (-1 : Int64)

def f_Mo_after (h0 : Nat) (μ : mM) (x1 : Int32) (x2 : Int32) (x3 : Int32) (x4 : Int32) (x5 : Int32) : Option (Int64 × mM) :=
  ((mrc μ (some h0) 11).bind fun a => f_Mo_taken a μ x1 x3 x4 x5).bind fun q1 =>
  if q1.1 = 0 then
    some ((-1 : Int64), q1.2)
  else
    ((mrc q1.2 (some h0) 11).bind fun a => f_Mo_lay a q1.2 x1).bind fun q2 =>
    if x2 < 0 then
      f_Mo_after_34 h0 q2
    else
      (mfI q2 (some h0) [11] 16).bind fun v3 =>
      if x2 ≤ v3 then
        ((mrc q2 (some h0) 11).bind fun a => f_Mo_through a q2 x1 x2 x3 x4 x5).bind fun q4 =>
        f_Mo_after_51 h0 q4.2 q4.1
      else
        f_Mo_after_34 h0 q2

-- R ColourLinker.work()I
def f_CL_work (μ : mM) (h0 : Nat) : Option (Int32) :=
  (mfI μ (some h0) [10] 10).bind fun v1 =>
  some (v1)

-- R ColourLinkerModel.work()I
def f_Mo_work (μ : mM) (h0 : Nat) : Option (Int32) :=
  (mfI μ (some h0) [11] 11).bind fun v1 =>
  some (v1)

