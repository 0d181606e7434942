-- W ColourLinkerModel.write(I)I
def f_Mo_write_234 (h0 : Nat) (μ : mM) (x4 : Int32) : Option (Int32 × mM) :=
  (mfA μ (some h0) [11] 0).bind fun v19 =>
  (msI μ (v19) (0 : Int32) (x4 / (256 : Int32))).bind fun m20 =>
  (mfA m20 (some h0) [11] 0).bind fun v21 =>
  (msI m20 (v21) (1 : Int32) (x4 - x4 / (256 : Int32) * (256 : Int32))).bind fun m22 =>
  (mpI m22 (some h0) [11] 1 x4).bind fun m23 =>
  (mfI m23 (some h0) [11] 1).bind fun v24 =>
  some (v24, m23)

def f_Mo_write_228 (h0 : Nat) (k : mM → Int32 → Int32 → Int32 → Int32 → Option (Int32 × mM)) (kx234 : mM → Int32 → Option (Int32 × mM)) (μ : mM) (x1 : Int32) (x3 : Int32) (x4 : Int32) (x5 : Int32) : Option (Int32 × mM) :=
  k μ x1 x3 x4 (x5 + (1 : Int32))

def f_Mo_write_223 (h0 : Nat) (k : mM → Int32 → Int32 → Int32 → Int32 → Option (Int32 × mM)) (kx234 : mM → Int32 → Option (Int32 × mM)) (μ : mM) (x1 : Int32) (x3 : Int32) (x5 : Int32) (s0 : Int32) : Option (Int32 × mM) :=
  f_Mo_write_228 h0 k kx234 μ x1 (x3 + (4 : Int32)) s0 x5

def f_Mo_write_202 (h0 : Nat) (k : mM → Int32 → Int32 → Int32 → Int32 → Option (Int32 × mM)) (kx234 : mM → Int32 → Option (Int32 × mM)) (μ : mM) (x1 : Int32) (x3 : Int32) (x4 : Int32) (x5 : Int32) (x7 : Int32) (x8 : Int32) : Option (Int32 × mM) :=
  if 0 ≤ x7 then
    f_Mo_write_223 h0 k kx234 μ x1 x3 x5 x4
  else
    f_Mo_write_223 h0 k kx234 μ x1 x3 x5 ((((x4 + x8) + (3 : Int32)) / (4 : Int32)) * (4 : Int32))

def f_Mo_write_157 (h0 : Nat) (kx202 : mM → Int32 → Int32 → Int32 → Int32 → Int32 → Int32 → Option (Int32 × mM)) : Nat → mM → Int32 → Int32 → Int32 → Int32 → Int32 → Int32 → Int32 → Int32 → Option (Int32 × mM)
  | 0, _, _, _, _, _, _, _, _, _ => none
  | n + 1, μ, x1, x3, x4, x5, x6, x7, x8, x9 =>
  if x8 ≤ x9 then
    kx202 μ x1 x3 x4 x5 x7 x8
  else
    if 0 ≤ x7 then
      kx202 μ x1 x3 x4 x5 x7 x8
    else
      (mfA μ (some h0) [11] 0).bind fun v15 =>
      ((mrc μ (some h0) 11).bind fun a => f_Mo_part μ a x1 (x6 + (1 : Int32))).bind fun q16 =>
      ((mrc μ (some h0) 11).bind fun a => f_Mo_part μ a x1 (q16 + x9)).bind fun q17 =>
      (msI μ (v15) (x4 + x9) q17).bind fun m18 =>
      f_Mo_write_157 h0 kx202 n m18 x1 x3 x4 x5 x6 x7 x8 (x9 + (1 : Int32))

def f_Mo_write_143 (h0 : Nat) (k : mM → Int32 → Int32 → Int32 → Int32 → Option (Int32 × mM)) (kx234 : mM → Int32 → Option (Int32 × mM)) (μ : mM) (x1 : Int32) (x3 : Int32) (x4 : Int32) (x5 : Int32) (x6 : Int32) (x7 : Int32) (x8 : Int32) (s0 : Option Nat) (s1 : Int32) (s2 : Int32) : Option (Int32 × mM) :=
  (msI μ (s0) s1 s2).bind fun m12 =>
  (mfA m12 (some h0) [11] 0).bind fun v13 =>
  (msI m12 (v13) (x3 + (2 : Int32)) x8).bind fun m14 =>
  f_Mo_write_157 h0 (fun μ y1 y3 y4 y5 y7 y8 => f_Mo_write_202 h0 k kx234 μ y1 y3 y4 y5 y7 y8) 4096 m14 x1 x3 x4 x5 x6 x7 x8 (0 : Int32)

def f_Mo_write_74 (h0 : Nat) (kx234 : mM → Int32 → Option (Int32 × mM)) : Nat → mM → Int32 → Int32 → Int32 → Int32 → Option (Int32 × mM)
  | 0, _, _, _, _, _ => none
  | n + 1, μ, x1, x3, x4, x5 =>
  if (12 : Int32) < x5 then
    kx234 μ x4
  else
    ((mrc μ (some h0) 11).bind fun a => f_Mo_entry μ a x1 x5).bind fun q6 =>
    if q6 ≤ 0 then
      f_Mo_write_228 h0 (f_Mo_write_74 h0 kx234 n) kx234 μ x1 x3 x4 x5
    else
      ((mrc μ (some h0) 11).bind fun a => f_Mo_written μ a x1 q6 x3).bind fun q7 =>
      ((mrc μ (some h0) 11).bind fun a => f_Mo_part μ a x1 (q6 + (2 : Int32))).bind fun q8 =>
      (mfA μ (some h0) [11] 0).bind fun v9 =>
      (msI μ (v9) x3 x5).bind fun m10 =>
      (mfA m10 (some h0) [11] 0).bind fun v11 =>
      if 0 ≤ q7 then
        f_Mo_write_143 h0 (f_Mo_write_74 h0 kx234 n) kx234 m10 x1 x3 x4 x5 q6 q7 q8 v11 (x3 + (1 : Int32)) q7
      else
        f_Mo_write_143 h0 (f_Mo_write_74 h0 kx234 n) kx234 m10 x1 x3 x4 x5 q6 q7 q8 v11 (x3 + (1 : Int32)) x4

def f_Mo_write_60 (h0 : Nat) (μ : mM) (x1 : Int32) (x2 : Int32) : Option (Int32 × mM) :=
  f_Mo_write_74 h0 (fun μ y4 => f_Mo_write_234 h0 μ y4) 4096 μ x1 (8 : Int32) ((8 : Int32) + ((4 : Int32) * x2)) (1 : Int32)

def f_Mo_write_53 (h0 : Nat) (k : mM → Int32 → Int32 → Int32 → Option (Int32 × mM)) (kx60 : mM → Int32 → Int32 → Option (Int32 × mM)) (μ : mM) (x1 : Int32) (x2 : Int32) (x3 : Int32) (s0 : Option Nat) (s1 : Int32) (s2 : Int32) : Option (Int32 × mM) :=
  (msI μ (s0) s1 s2).bind fun m5 =>
  k m5 x1 x2 (x3 + (1 : Int32))

def f_Mo_write_52 (h0 : Nat) (k : mM → Int32 → Int32 → Int32 → Option (Int32 × mM)) (kx60 : mM → Int32 → Int32 → Option (Int32 × mM)) (μ : mM) (x1 : Int32) (x2 : Int32) (x3 : Int32) (s0 : Option Nat) (s1 : Int32) : Option (Int32 × mM) :=
  f_Mo_write_53 h0 k kx60 μ x1 x2 x3 s0 s1 (0 : Int32)

def f_Mo_write_20 (h0 : Nat) (kx60 : mM → Int32 → Int32 → Option (Int32 × mM)) : Nat → mM → Int32 → Int32 → Int32 → Option (Int32 × mM)
  | 0, _, _, _, _ => none
  | n + 1, μ, x1, x2, x3 =>
  if (256 : Int32) ≤ x3 then
    kx60 μ x1 x2
  else
    (mfA μ (some h0) [11] 0).bind fun v3 =>
    if x3 < (2 : Int32) then
      f_Mo_write_52 h0 (f_Mo_write_20 h0 kx60 n) kx60 μ x1 x2 x3 v3 x3
    else
      if (8 : Int32) ≤ x3 then
        f_Mo_write_52 h0 (f_Mo_write_20 h0 kx60 n) kx60 μ x1 x2 x3 v3 x3
      else
        ((mrc μ (some h0) 11).bind fun a => f_Mo_part μ a x1 x3).bind fun q4 =>
        f_Mo_write_53 h0 (f_Mo_write_20 h0 kx60 n) kx60 μ x1 x2 x3 v3 x3 q4

def f_Mo_write (h0 : Nat) (μ : mM) (x1 : Int32) : Option (Int32 × mM) :=
  ((mrc μ (some h0) 11).bind fun a => f_Mo_there μ a x1).bind fun q1 =>
  if q1 = 0 then
    some ((-1 : Int32), μ)
  else
    ((mrc μ (some h0) 11).bind fun a => f_Mo_part μ a x1 (6 : Int32)).bind fun q2 =>
    f_Mo_write_20 h0 (fun μ y1 y2 => f_Mo_write_60 h0 μ y1 y2) 4096 μ x1 q2 (0 : Int32)

-- R ColourLinker.isLevel(I)Z
def f_CL_isLevel_15 (μ : mM) (s0 : Int32) : Option (Int32) :=
  (mz s0).bind fun v1 =>
  some (v1)

def f_CL_isLevel_14 (μ : mM) : Option (Int32) :=
  f_CL_isLevel_15 μ (0 : Int32)

def f_CL_isLevel (μ : mM) (x0 : Int32) : Option (Int32) :=
  if x0 < 0 then
    f_CL_isLevel_14 μ 
  else
    if (65535 : Int32) < x0 then
      f_CL_isLevel_14 μ 
    else
      f_CL_isLevel_15 μ (1 : Int32)

-- R ColourLinker$Curve.isRising()Z
def f_Curve_isRising_83 (μ : mM) (h0 : Nat) : Option (Int32) :=
  some ((1 : Int32))

def f_Curve_isRising_49 (μ : mM) (h0 : Nat) (kx83 : Unit → Option (Int32)) : Nat → Int32 → Option (Int32)
  | 0, _ => none
  | n + 1, x1 =>
  (mfA μ (some h0) [2] 1).bind fun v11 =>
  (ml μ (v11)).bind fun v12 =>
  if v12 ≤ x1 then
    kx83 ()
  else
    (mfA μ (some h0) [2] 1).bind fun v13 =>
    (mgI μ (v13) x1).bind fun v14 =>
    (mfA μ (some h0) [2] 1).bind fun v15 =>
    (mgI μ (v15) (x1 - (1 : Int32))).bind fun v16 =>
    if v16 < v14 then
      f_Curve_isRising_49 μ h0 kx83 n (x1 + (1 : Int32))
    else
      some ((0 : Int32))

def f_Curve_isRising_46 (μ : mM) (h0 : Nat) (s0 : Int32) : Option (Int32) :=
  (mz s0).bind fun v10 =>
  some (v10)

def f_Curve_isRising_41 (μ : mM) (h0 : Nat) : Option (Int32) :=
  f_Curve_isRising_46 μ h0 (1 : Int32)

def f_Curve_isRising (μ : mM) (h0 : Nat) : Option (Int32) :=
  (mfI μ (some h0) [2] 0).bind fun v1 =>
  if v1 ≤ 0 then
    f_Curve_isRising_49 μ h0 (fun (_ : Unit) => f_Curve_isRising_83 μ h0 ) 4096 (1 : Int32)
  else
    (mfA μ (some h0) [2] 1).bind fun v2 =>
    (mgI μ (v2) (1 : Int32)).bind fun v3 =>
    if v3 = 0 then
      f_Curve_isRising_41 μ h0 
    else
      (mfA μ (some h0) [2] 1).bind fun v4 =>
      (mgI μ (v4) (1 : Int32)).bind fun v5 =>
      ((mrc μ (some h0) 2).bind fun a => f_Curve_lineAt μ a (v5 - (1 : Int32))).bind fun q6 =>
      (mfA μ (some h0) [2] 1).bind fun v7 =>
      (mgI μ (v7) (1 : Int32)).bind fun v8 =>
      ((mrc μ (some h0) 2).bind fun a => f_Curve_powerAt μ a v8).bind fun q9 =>
      if q9 < q6 then
        f_Curve_isRising_46 μ h0 (0 : Int32)
      else
        f_Curve_isRising_41 μ h0 

-- R ColourLinker.curve(IIIZ)I
def f_CL_curve_77 (μ : mM) (h0 : Nat) (s0 : Int32) : Option (Int32) :=
  some (s0)

def f_CL_curve_29 (μ : mM) (h0 : Nat) : Option (Int32) :=
  some ((-1 : Int32))

def f_CL_curve (μ : mM) (h0 : Nat) (x1 : Int32) (x2 : Int32) (x3 : Int32) (x4 : Int32) : Option (Int32) :=
  ((mrc μ (some h0) 10).bind fun a => f_CL_profileAt μ a x1).bind fun q1 =>
  if q1 = none then
    f_CL_curve_29 μ h0 
  else
    if x2 < (1 : Int32) then
      f_CL_curve_29 μ h0 
    else
      if (4 : Int32) < x2 then
        f_CL_curve_29 μ h0 
      else
        (f_CL_isLevel μ x3).bind fun q2 =>
        if q2 = 0 then
          f_CL_curve_29 μ h0 
        else
          (mfA μ (q1) [9] 3).bind fun v3 =>
          (mgA μ (v3) x2).bind fun v4 =>
          if v4 = none then
            some ((-1 : Int32))
          else
            if x4 = 0 then
              ((mrc μ (v4) 2).bind fun a => f_Curve_valueAt μ a x3).bind fun q7 =>
              some (q7)
            else
              ((mrc μ (v4) 2).bind fun a => f_Curve_isRising μ a).bind fun q5 =>
              if q5 = 0 then
                f_CL_curve_77 μ h0 (-1 : Int32)
              else
                ((mrc μ (v4) 2).bind fun a => f_Curve_inverseAt μ a x3).bind fun q6 =>
                f_CL_curve_77 μ h0 q6

-- R ColourLinkerModel.word(II)I
def f_Mo_word (μ : mM) (h0 : Nat) (x1 : Int32) (x2 : Int32) : Option (Int32) :=
  (mfA μ (some h0) [11] 2).bind fun v1 =>
  (mgI μ (v1) (((256 : Int32) * x1) + x2)).bind fun v2 =>
  (mfA μ (some h0) [11] 2).bind fun v3 =>
  (mgI μ (v3) ((((256 : Int32) * x1) + x2) + (1 : Int32))).bind fun v4 =>
  some ((((256 : Int32) * v2) + v4))

-- R ColourLinkerModel.near(JJ)J
def f_Mo_near_41 (μ : mM) (s0 : Int64) : Option (Int64) :=
  some (s0)

def f_Mo_near (μ : mM) (x0 : Int64) (x2 : Int64) : Option (Int64) :=
  if ((2 : Int64) * x2) = 0 then none else
  if ((2 : Int64) * x2) = 0 then none else
  if (0 : Int64) ≤ ((((2 : Int64) * x0) + x2) - (((2 : Int64) * x0) + x2) / ((2 : Int64) * x2) * ((2 : Int64) * x2)) then
    f_Mo_near_41 μ ((((2 : Int64) * x0) + x2) / ((2 : Int64) * x2))
  else
    f_Mo_near_41 μ (((((2 : Int64) * x0) + x2) / ((2 : Int64) * x2)) - (1 : Int64))

-- R ColourLinkerModel.clip(J)J
def f_Mo_clip_25 (μ : mM) (s0 : Int64) : Option (Int64) :=
  some (s0)

def f_Mo_clip (μ : mM) (x0 : Int64) : Option (Int64) :=
  if (0 : Int64) ≤ x0 then
    if x0 ≤ (65535 : Int64) then
      f_Mo_clip_25 μ x0
    else
      f_Mo_clip_25 μ (65535 : Int64)
  else
    f_Mo_clip_25 μ (0 : Int64)

-- R ColourLinkerModel.clipNear(JJ)J
def f_Mo_clipNear (μ : mM) (x0 : Int64) (x2 : Int64) : Option (Int64) :=
  (f_Mo_near μ x0 x2).bind fun q1 =>
  (f_Mo_clip μ q1).bind fun q2 =>
  some (q2)

