-- R java/lang/Math.floorDiv(JJ)J
def f_Math_floorDiv_27 (μ : mM) (x4 : Int64) : Option (Int64) :=
  some (x4)

def f_Math_floorDiv (μ : mM) (x0 : Int64) (x2 : Int64) : Option (Int64) :=
  if x2 = 0 then none else
  if (0 : Int64) ≤ (x0 ^^^ x2) then
    f_Math_floorDiv_27 μ (x0 / x2)
  else
    if ((x0 / x2) * x2) = x0 then
      f_Math_floorDiv_27 μ (x0 / x2)
    else
      some (((x0 / x2) - (1 : Int64)))

-- R ColourLinker.nearest(JJ)J
def f_CL_nearest_34 (μ : mM) (x4 : Int64) (s0 : Int64) : Option (Int64) :=
  (f_Math_floorDiv μ (((2 : Int64) * x4) + s0) ((2 : Int64) * s0)).bind fun q1 =>
  some (q1)

def f_CL_nearest_20 (μ : mM) (x2 : Int64) (s0 : Int64) : Option (Int64) :=
  if (0 : Int64) ≤ x2 then
    f_CL_nearest_34 μ s0 x2
  else
    f_CL_nearest_34 μ s0 (-x2)

def f_CL_nearest (μ : mM) (x0 : Int64) (x2 : Int64) : Option (Int64) :=
  if x2 = (0 : Int64) then
    some ((0 : Int64))
  else
    if (0 : Int64) ≤ x2 then
      f_CL_nearest_20 μ x2 x0
    else
      f_CL_nearest_20 μ x2 (-x0)

-- R ColourLinker$Adjust.scaled(JI)J
def f_Adjust_scaled (μ : mM) (h0 : Nat) (x1 : Int64) (x3 : Int32) : Option (Int64) :=
  (mfA μ (some h0) [0] 2).bind fun v1 =>
  (mfA μ (v1) [9] 9).bind fun v2 =>
  (mgI μ (v2) x3).bind fun v3 =>
  (mfA μ (some h0) [0] 3).bind fun v4 =>
  (mfA μ (v4) [9] 9).bind fun v5 =>
  (mgI μ (v5) x3).bind fun v6 =>
  (f_CL_nearest μ (x1 * (v3).toInt64) ((v6).toInt64)).bind fun q7 =>
  some (q7)

-- R ColourLinker$Profile.blackLevel(I)I
def f_Profile_blackLevel_19 (μ : mM) (h0 : Nat) (s0 : Int32) : Option (Int32) :=
  some (s0)

def f_Profile_blackLevel_18 (μ : mM) (h0 : Nat) : Option (Int32) :=
  f_Profile_blackLevel_19 μ h0 (0 : Int32)

def f_Profile_blackLevel (μ : mM) (h0 : Nat) (x1 : Int32) : Option (Int32) :=
  if x1 < 0 then
    f_Profile_blackLevel_18 μ h0 
  else
    if (3 : Int32) ≤ x1 then
      f_Profile_blackLevel_18 μ h0 
    else
      (mfA μ (some h0) [9] 10).bind fun v1 =>
      (mgI μ (v1) x1).bind fun v2 =>
      f_Profile_blackLevel_19 μ h0 v2

-- R ColourLinker$Adjust.darkened(JI)J
def f_Adjust_darkened (μ : mM) (h0 : Nat) (x1 : Int64) (x3 : Int32) : Option (Int64) :=
  (mgD x3).bind fun v1 =>
  (mgD x3).bind fun v2 =>
  (mfA μ (some h0) [0] 3).bind fun v3 =>
  (mfI μ (some h0) [0] 4).bind fun v4 =>
  ((mrc μ (v3) 9).bind fun a => f_Profile_blackLevel μ a v4).bind fun q5 =>
  (mfA μ (some h0) [0] 2).bind fun v6 =>
  (mfI μ (some h0) [0] 4).bind fun v7 =>
  ((mrc μ (v6) 9).bind fun a => f_Profile_blackLevel μ a v7).bind fun q8 =>
  (f_CL_nearest μ (((v2).toInt64 - x1) * (((32768 : Int32) - q5)).toInt64) ((((32768 : Int32) - q8)).toInt64)).bind fun q9 =>
  some (((v1).toInt64 - q9))

-- R ColourLinker.clip(J)I
def f_CL_clip (μ : mM) (x0 : Int64) : Option (Int32) :=
  some (((jmaxJ (0 : Int64) (jminJ (65535 : Int64) x0))).toInt32)

-- W ColourLinker$Adjust.run([I)V
def f_Adjust_run_49 (h0 : Nat) (μ : mM) : Option (mM) :=
  some (μ)

def f_Adjust_run_39 (h0 : Nat) (k : mM → (Option Nat) → Int32 → Option (mM)) (kx49 : mM → Option (mM)) (μ : mM) (x1 : Option Nat) (x2 : Int32) (s0 : Option Nat) (s1 : Int32) (s2 : Int64) : Option (mM) :=
  (f_CL_clip μ s2).bind fun q6 =>
  (msI μ (s0) s1 q6).bind fun m7 =>
  k m7 x1 (x2 + (1 : Int32))

def f_Adjust_run_2 (h0 : Nat) (kx49 : mM → Option (mM)) : Nat → mM → (Option Nat) → Int32 → Option (mM)
  | 0, _, _, _ => none
  | n + 1, μ, x1, x2 =>
  if (3 : Int32) ≤ x2 then
    kx49 μ
  else
    (mfI μ (some h0) [0] 0).bind fun v1 =>
    if v1 = (7 : Int32) then
      (mgI μ (x1) x2).bind fun v4 =>
      ((mrc μ (some h0) 0).bind fun a => f_Adjust_scaled μ a ((v4).toInt64) x2).bind fun q5 =>
      f_Adjust_run_39 h0 (f_Adjust_run_2 h0 kx49 n) kx49 μ x1 x2 x1 x2 q5
    else
      (mgI μ (x1) x2).bind fun v2 =>
      ((mrc μ (some h0) 0).bind fun a => f_Adjust_darkened μ a ((v2).toInt64) x2).bind fun q3 =>
      f_Adjust_run_39 h0 (f_Adjust_run_2 h0 kx49 n) kx49 μ x1 x2 x1 x2 q3

def f_Adjust_run (h0 : Nat) (μ : mM) (x1 : Option Nat) : Option (mM) :=
  f_Adjust_run_2 h0 (fun μ => f_Adjust_run_49 h0 μ) 4096 μ x1 (0 : Int32)

-- R ColourLinker$Curve.lineAt(I)I
def f_Curve_lineAt (μ : mM) (h0 : Nat) (x1 : Int32) : Option (Int32) :=
  (mfA μ (some h0) [2] 1).bind fun v1 =>
  (mgI μ (v1) (0 : Int32)).bind fun v2 =>
  (f_CL_nearest μ ((v2).toInt64 * (x1).toInt64) (256 : Int64)).bind fun q3 =>
  (f_CL_clip μ q3).bind fun q4 =>
  some (q4)

-- R ColourLinker$Curve.powerAt(I)I
def f_Curve_powerAt_32 (μ : mM) (h0 : Nat) (x2 : Int64) : Option (Int32) :=
  some ((x2).toInt32)

def f_Curve_powerAt_6 (μ : mM) (h0 : Nat) (kx32 : Int64 → Option (Int32)) : Nat → Int32 → Int64 → Int32 → Option (Int32)
  | 0, _, _, _ => none
  | n + 1, x1, x2, x4 =>
  (mfI μ (some h0) [2] 0).bind fun v1 =>
  if v1 ≤ x4 then
    kx32 x2
  else
    (f_CL_nearest μ (x2 * (x1).toInt64) (65535 : Int64)).bind fun q2 =>
    f_Curve_powerAt_6 μ h0 kx32 n x1 q2 (x4 + (1 : Int32))

def f_Curve_powerAt (μ : mM) (h0 : Nat) (x1 : Int32) : Option (Int32) :=
  f_Curve_powerAt_6 μ h0 (fun y2 => f_Curve_powerAt_32 μ h0 y2) 4096 x1 ((x1).toInt64) (1 : Int32)

-- R ColourLinker$Curve.sampleAt(I)I
def f_Curve_sampleAt (μ : mM) (h0 : Nat) (x1 : Int32) : Option (Int32) :=
  (mfA μ (some h0) [2] 1).bind fun v1 =>
  (ml μ (v1)).bind fun v2 =>
  (mfA μ (some h0) [2] 1).bind fun v3 =>
  (ml μ (v3)).bind fun v4 =>
  (mfA μ (some h0) [2] 1).bind fun v5 =>
  (mgI μ (v5) (jminI (v4 - (2 : Int32)) ((x1 * (v2 - (1 : Int32))) / (65535 : Int32)))).bind fun v6 =>
  (mfA μ (some h0) [2] 1).bind fun v7 =>
  (mgI μ (v7) ((jminI (v4 - (2 : Int32)) ((x1 * (v2 - (1 : Int32))) / (65535 : Int32))) + (1 : Int32))).bind fun v8 =>
  (mfA μ (some h0) [2] 1).bind fun v9 =>
  (mgI μ (v9) (jminI (v4 - (2 : Int32)) ((x1 * (v2 - (1 : Int32))) / (65535 : Int32)))).bind fun v10 =>
  (f_CL_nearest μ (((v8 - v10)).toInt64 * (((x1 * (v2 - (1 : Int32))) - ((65535 : Int32) * (jminI (v4 - (2 : Int32)) ((x1 * (v2 - (1 : Int32))) / (65535 : Int32)))))).toInt64) (65535 : Int64)).bind fun q11 =>
  some ((v6 + (q11).toInt32))

-- R ColourLinker$Curve.valueAt(I)I
def f_Curve_valueAt_49 (μ : mM) (h0 : Nat) (s0 : Int32) : Option (Int32) :=
  some (s0)

def f_Curve_valueAt_30 (μ : mM) (h0 : Nat) (s0 : Int32) : Option (Int32) :=
  some (s0)

def f_Curve_valueAt (μ : mM) (h0 : Nat) (x1 : Int32) : Option (Int32) :=
  (mfI μ (some h0) [2] 0).bind fun v1 =>
  if v1 ≤ 0 then
    (mfA μ (some h0) [2] 1).bind fun v2 =>
    (ml μ (v2)).bind fun v3 =>
    if (2 : Int32) ≤ v3 then
      ((mrc μ (some h0) 2).bind fun a => f_Curve_sampleAt μ a x1).bind fun q4 =>
      f_Curve_valueAt_49 μ h0 q4
    else
      f_Curve_valueAt_49 μ h0 x1
  else
    (mfA μ (some h0) [2] 1).bind fun v5 =>
    (mgI μ (v5) (1 : Int32)).bind fun v6 =>
    if v6 ≤ x1 then
      ((mrc μ (some h0) 2).bind fun a => f_Curve_powerAt μ a x1).bind fun q7 =>
      f_Curve_valueAt_30 μ h0 q7
    else
      ((mrc μ (some h0) 2).bind fun a => f_Curve_lineAt μ a x1).bind fun q8 =>
      f_Curve_valueAt_30 μ h0 q8

-- R ColourLinker$Curve.inverseAt(I)I
def f_Curve_inverseAt_33 (μ : mM) (h0 : Nat) (x2 : Int32) : Option (Int32) :=
  some (x2)

def f_Curve_inverseAt_26 (μ : mM) (h0 : Nat) (k : Int32 → Int32 → Int32 → Option (Int32)) (kx33 : Int32 → Option (Int32)) (x1 : Int32) (x2 : Int32) (x3 : Int32) : Option (Int32) :=
  k x1 x2 (x3 / (2 : Int32))

def f_Curve_inverseAt_5 (μ : mM) (h0 : Nat) (kx33 : Int32 → Option (Int32)) : Nat → Int32 → Int32 → Int32 → Option (Int32)
  | 0, _, _, _ => none
  | n + 1, x1, x2, x3 =>
  if x3 ≤ 0 then
    kx33 x2
  else
    ((mrc μ (some h0) 2).bind fun a => f_Curve_valueAt μ a ((x2 + x3) - (1 : Int32))).bind fun q1 =>
    if x1 ≤ q1 then
      f_Curve_inverseAt_26 μ h0 (f_Curve_inverseAt_5 μ h0 kx33 n) kx33 x1 x2 x3
    else
      f_Curve_inverseAt_26 μ h0 (f_Curve_inverseAt_5 μ h0 kx33 n) kx33 x1 (x2 + x3) x3

def f_Curve_inverseAt (μ : mM) (h0 : Nat) (x1 : Int32) : Option (Int32) :=
  f_Curve_inverseAt_5 μ h0 (fun y2 => f_Curve_inverseAt_33 μ h0 y2) 4096 x1 (0 : Int32) (32768 : Int32)

-- W ColourLinker$Curves.run([I)V
def f_Curves_run_55 (h0 : Nat) (μ : mM) : Option (mM) :=
  some (μ)

def f_Curves_run_48 (h0 : Nat) (k : mM → (Option Nat) → Int32 → Option (mM)) (kx55 : mM → Option (mM)) (μ : mM) (x1 : Option Nat) (x2 : Int32) (s0 : Option Nat) (s1 : Int32) (s2 : Int32) : Option (mM) :=
  (msI μ (s0) s1 s2).bind fun m12 =>
  k m12 x1 (x2 + (1 : Int32))

def f_Curves_run_2 (h0 : Nat) (kx55 : mM → Option (mM)) : Nat → mM → (Option Nat) → Int32 → Option (mM)
  | 0, _, _, _ => none
  | n + 1, μ, x1, x2 =>
  (mfA μ (some h0) [3] 2).bind fun v1 =>
  (ml μ (v1)).bind fun v2 =>
  if v2 ≤ x2 then
    kx55 μ
  else
    (mfI μ (some h0) [3] 0).bind fun v3 =>
    if v3 = (1 : Int32) then
      (mfA μ (some h0) [3] 2).bind fun v8 =>
      (mgA μ (v8) x2).bind fun v9 =>
      (mgI μ (x1) x2).bind fun v10 =>
      ((mrc μ (v9) 2).bind fun a => f_Curve_valueAt μ a v10).bind fun q11 =>
      f_Curves_run_48 h0 (f_Curves_run_2 h0 kx55 n) kx55 μ x1 x2 x1 x2 q11
    else
      (mfA μ (some h0) [3] 2).bind fun v4 =>
      (mgA μ (v4) x2).bind fun v5 =>
      (mgI μ (x1) x2).bind fun v6 =>
      ((mrc μ (v5) 2).bind fun a => f_Curve_inverseAt μ a v6).bind fun q7 =>
      f_Curves_run_48 h0 (f_Curves_run_2 h0 kx55 n) kx55 μ x1 x2 x1 x2 q7

def f_Curves_run (h0 : Nat) (μ : mM) (x1 : Option Nat) : Option (mM) :=
  f_Curves_run_2 h0 (fun μ => f_Curves_run_55 h0 μ) 4096 μ x1 (0 : Int32)

