-- W ColourLinker$Gray.spread([I)V
def f_Gray_spread_59 (h0 : Nat) (μ : mM) : Option (mM) :=
  some (μ)

def f_Gray_spread_27 (h0 : Nat) (kx59 : mM → Option (mM)) : Nat → mM → (Option Nat) → Int64 → Int32 → Option (mM)
  | 0, _, _, _, _ => none
  | n + 1, μ, x1, x2, x4 =>
  if (3 : Int32) ≤ x4 then
    kx59 μ
  else
    (mgD x4).bind fun v5 =>
    (f_CL_nearest μ ((v5).toInt64 * x2) (65535 : Int64)).bind fun q6 =>
    (msI μ (x1) x4 ((q6).toInt32)).bind fun m7 =>
    f_Gray_spread_27 h0 kx59 n m7 x1 x2 (x4 + (1 : Int32))

def f_Gray_spread (h0 : Nat) (μ : mM) (x1 : Option Nat) : Option (mM) :=
  (mgI μ (x1) (0 : Int32)).bind fun v1 =>
  (mfI μ (some h0) [4] 2).bind fun v2 =>
  if v2 = (1 : Int32) then
    (msI μ (x1) (1 : Int32) (32896 : Int32)).bind fun m3 =>
    (msI m3 (x1) (2 : Int32) (32896 : Int32)).bind fun m4 =>
    some (m4)
  else
    f_Gray_spread_27 h0 (fun μ => f_Gray_spread_59 h0 μ) 4096 μ x1 ((v1).toInt64) (0 : Int32)

-- W ColourLinker$Gray.gather([I)V
def f_Gray_gather_27 (h0 : Nat) (μ : mM) (x1 : Option Nat) : Option (mM) :=
  (msI μ (x1) (1 : Int32) (0 : Int32)).bind fun m6 =>
  (msI m6 (x1) (2 : Int32) (0 : Int32)).bind fun m7 =>
  some (m7)

def f_Gray_gather (h0 : Nat) (μ : mM) (x1 : Option Nat) : Option (mM) :=
  (mfI μ (some h0) [4] 2).bind fun v1 =>
  if v1 = 0 then
    (mgI μ (x1) (1 : Int32)).bind fun v2 =>
    (f_CL_nearest μ ((65535 : Int64) * (v2).toInt64) (32768 : Int64)).bind fun q3 =>
    (f_CL_clip μ q3).bind fun q4 =>
    (msI μ (x1) (0 : Int32) q4).bind fun m5 =>
    f_Gray_gather_27 h0 m5 x1
  else
    f_Gray_gather_27 h0 μ x1

-- W ColourLinker$Gray.run([I)V
def f_Gray_run_21 (h0 : Nat) (μ : mM) : Option (mM) :=
  some (μ)

def f_Gray_run (h0 : Nat) (μ : mM) (x1 : Option Nat) : Option (mM) :=
  (mfI μ (some h0) [4] 0).bind fun v1 =>
  if v1 = (4 : Int32) then
    ((mrc μ (some h0) 4).bind fun a => f_Gray_spread a μ x1).bind fun q3 =>
    f_Gray_run_21 h0 q3
  else
    ((mrc μ (some h0) 4).bind fun a => f_Gray_gather a μ x1).bind fun q2 =>
    f_Gray_run_21 h0 q2

-- R ColourLinker$Grid.axisOfGreatest()I
def f_Grid_axisOfGreatest_36 (μ : mM) (h0 : Nat) (x1 : Int32) : Option (Int32) :=
  some (x1)

def f_Grid_axisOfGreatest_29 (μ : mM) (h0 : Nat) (k : Int32 → Int32 → Option (Int32)) (kx36 : Int32 → Option (Int32)) (x2 : Int32) (s0 : Int32) : Option (Int32) :=
  k s0 (x2 + (1 : Int32))

def f_Grid_axisOfGreatest_4 (μ : mM) (h0 : Nat) (kx36 : Int32 → Option (Int32)) : Nat → Int32 → Int32 → Option (Int32)
  | 0, _, _ => none
  | n + 1, x1, x2 =>
  if (3 : Int32) ≤ x2 then
    kx36 x1
  else
    (mfA μ (some h0) [5] 5).bind fun v1 =>
    (mgI μ (v1) x2).bind fun v2 =>
    (mfA μ (some h0) [5] 5).bind fun v3 =>
    (mgI μ (v3) x1).bind fun v4 =>
    if v2 ≤ v4 then
      f_Grid_axisOfGreatest_29 μ h0 (f_Grid_axisOfGreatest_4 μ h0 kx36 n) kx36 x2 x1
    else
      f_Grid_axisOfGreatest_29 μ h0 (f_Grid_axisOfGreatest_4 μ h0 kx36 n) kx36 x2 x2

def f_Grid_axisOfGreatest (μ : mM) (h0 : Nat) : Option (Int32) :=
  f_Grid_axisOfGreatest_4 μ h0 (fun y1 => f_Grid_axisOfGreatest_36 μ h0 y1) 4096 (0 : Int32) (1 : Int32)

-- R ColourLinker$Grid.axisOfLeast()I
def f_Grid_axisOfLeast_36 (μ : mM) (h0 : Nat) (x1 : Int32) : Option (Int32) :=
  some (x1)

def f_Grid_axisOfLeast_29 (μ : mM) (h0 : Nat) (k : Int32 → Int32 → Option (Int32)) (kx36 : Int32 → Option (Int32)) (x2 : Int32) (s0 : Int32) : Option (Int32) :=
  k s0 (x2 + (1 : Int32))

def f_Grid_axisOfLeast_4 (μ : mM) (h0 : Nat) (kx36 : Int32 → Option (Int32)) : Nat → Int32 → Int32 → Option (Int32)
  | 0, _, _ => none
  | n + 1, x1, x2 =>
  if (3 : Int32) ≤ x2 then
    kx36 x1
  else
    (mfA μ (some h0) [5] 5).bind fun v1 =>
    (mgI μ (v1) x2).bind fun v2 =>
    (mfA μ (some h0) [5] 5).bind fun v3 =>
    (mgI μ (v3) x1).bind fun v4 =>
    if v4 < v2 then
      f_Grid_axisOfLeast_29 μ h0 (f_Grid_axisOfLeast_4 μ h0 kx36 n) kx36 x2 x1
    else
      f_Grid_axisOfLeast_29 μ h0 (f_Grid_axisOfLeast_4 μ h0 kx36 n) kx36 x2 x2

def f_Grid_axisOfLeast (μ : mM) (h0 : Nat) : Option (Int32) :=
  f_Grid_axisOfLeast_4 μ h0 (fun y1 => f_Grid_axisOfLeast_36 μ h0 y1) 4096 (0 : Int32) (1 : Int32)

-- R ColourLinker$Grid.stride(I)I
def f_Grid_stride_29 (μ : mM) (h0 : Nat) (s0 : Int32) : Option (Int32) :=
  some (s0)

def f_Grid_stride (μ : mM) (h0 : Nat) (x1 : Int32) : Option (Int32) :=
  if x1 = 0 then
    (mfI μ (some h0) [5] 4).bind fun v2 =>
    (mfI μ (some h0) [5] 4).bind fun v3 =>
    f_Grid_stride_29 μ h0 (v2 * v3)
  else
    if x1 = (1 : Int32) then
      (mfI μ (some h0) [5] 4).bind fun v1 =>
      f_Grid_stride_29 μ h0 v1
    else
      f_Grid_stride_29 μ h0 (1 : Int32)

-- R ColourLinker$Grid.levelAt(II)J
def f_Grid_levelAt (μ : mM) (h0 : Nat) (x1 : Int32) (x2 : Int32) : Option (Int64) :=
  (mfA μ (some h0) [5] 2).bind fun v1 =>
  (mfI μ (some h0) [5] 3).bind fun v2 =>
  (mgI μ (v1) ((v2 + ((3 : Int32) * x1)) + x2)).bind fun v3 =>
  some (((257 : Int64) * (v3).toInt64))

-- W ColourLinker$Grid.run([I)V
def f_Grid_run_236 (h0 : Nat) (μ : mM) : Option (mM) :=
  some (μ)

def f_Grid_run_120 (h0 : Nat) (kx236 : mM → Option (mM)) : Nat → mM → (Option Nat) → Int32 → Int32 → Int32 → Int32 → Int32 → Int32 → Int32 → Int32 → Option (mM)
  | 0, _, _, _, _, _, _, _, _, _, _ => none
  | n + 1, μ, x1, x2, x3, x4, x5, x6, x7, x8, x9 =>
  if (3 : Int32) ≤ x9 then
    kx236 μ
  else
    ((mrc μ (some h0) 5).bind fun a => f_Grid_levelAt μ a x2 x9).bind fun q12 =>
    ((mrc μ (some h0) 5).bind fun a => f_Grid_levelAt μ a x6 x9).bind fun q13 =>
    ((mrc μ (some h0) 5).bind fun a => f_Grid_levelAt μ a x7 x9).bind fun q14 =>
    ((mrc μ (some h0) 5).bind fun a => f_Grid_levelAt μ a x8 x9).bind fun q15 =>
    (mfA μ (some h0) [5] 5).bind fun v16 =>
    (mgI μ (v16) x3).bind fun v17 =>
    (mfA μ (some h0) [5] 5).bind fun v18 =>
    (mgI μ (v18) x5).bind fun v19 =>
    (mfA μ (some h0) [5] 5).bind fun v20 =>
    (mgI μ (v20) x4).bind fun v21 =>
    (f_CL_nearest μ (((65535 : Int64) * q12) + ((((v17).toInt64 * (q13 - q12)) + ((v19).toInt64 * (q14 - q13))) + ((v21).toInt64 * (q15 - q14)))) (65535 : Int64)).bind fun q22 =>
    (msI μ (x1) x9 ((q22).toInt32)).bind fun m23 =>
    f_Grid_run_120 h0 kx236 n m23 x1 x2 x3 x4 x5 x6 x7 x8 (x9 + (1 : Int32))

def f_Grid_run_67 (h0 : Nat) (μ : mM) (x1 : Option Nat) (x2 : Int32) : Option (mM) :=
  ((mrc μ (some h0) 5).bind fun a => f_Grid_axisOfGreatest μ a).bind fun q7 =>
  ((mrc μ (some h0) 5).bind fun a => f_Grid_axisOfLeast μ a).bind fun q8 =>
  ((mrc μ (some h0) 5).bind fun a => f_Grid_stride μ a q7).bind fun q9 =>
  ((mrc μ (some h0) 5).bind fun a => f_Grid_stride μ a (((3 : Int32) - q7) - q8)).bind fun q10 =>
  ((mrc μ (some h0) 5).bind fun a => f_Grid_stride μ a q8).bind fun q11 =>
  f_Grid_run_120 h0 (fun μ => f_Grid_run_236 h0 μ) 4096 μ x1 x2 q7 q8 (((3 : Int32) - q7) - q8) (x2 + q9) ((x2 + q9) + q10) (((x2 + q9) + q10) + q11) (0 : Int32)

def f_Grid_run_4 (h0 : Nat) (kx67 : mM → (Option Nat) → Int32 → Option (mM)) : Nat → mM → (Option Nat) → Int32 → Int32 → Option (mM)
  | 0, _, _, _, _ => none
  | n + 1, μ, x1, x2, x3 =>
  if (3 : Int32) ≤ x3 then
    kx67 μ x1 x2
  else
    (mgI μ (x1) x3).bind fun v1 =>
    (mfI μ (some h0) [5] 4).bind fun v2 =>
    (mfI μ (some h0) [5] 4).bind fun v3 =>
    (mfA μ (some h0) [5] 5).bind fun v4 =>
    (msI μ (v4) x3 ((v1 * (v2 - (1 : Int32))) - ((65535 : Int32) * (jminI (v3 - (2 : Int32)) ((v1 * (v2 - (1 : Int32))) / (65535 : Int32)))))).bind fun m5 =>
    (mfI m5 (some h0) [5] 4).bind fun v6 =>
    f_Grid_run_4 h0 kx67 n m5 x1 ((x2 * v6) + (jminI (v3 - (2 : Int32)) ((v1 * (v2 - (1 : Int32))) / (65535 : Int32)))) (x3 + (1 : Int32))

def f_Grid_run (h0 : Nat) (μ : mM) (x1 : Option Nat) : Option (mM) :=
  f_Grid_run_4 h0 (fun μ y1 y2 => f_Grid_run_67 h0 μ y1 y2) 4096 μ x1 (0 : Int32) (0 : Int32)

-- R ColourLinker$LabXyz.cubeRoot(J)J
def f_LabXyz_cubeRoot_44 (μ : mM) (x2 : Int64) : Option (Int64) :=
  some (x2)

def f_LabXyz_cubeRoot_35 (μ : mM) (k : Int64 → Int64 → Int32 → Option (Int64)) (kx44 : Int64 → Option (Int64)) (x0 : Int64) (x2 : Int64) (x4 : Int32) : Option (Int64) :=
  k x0 x2 (x4 / (2 : Int32))

def f_LabXyz_cubeRoot_7 (μ : mM) (kx44 : Int64 → Option (Int64)) : Nat → Int64 → Int64 → Int32 → Option (Int64)
  | 0, _, _, _ => none
  | n + 1, x0, x2, x4 =>
  if x4 ≤ 0 then
    kx44 x2
  else
    if x0 < (((x2 + (x4).toInt64) * (x2 + (x4).toInt64)) * (x2 + (x4).toInt64)) then
      f_LabXyz_cubeRoot_35 μ (f_LabXyz_cubeRoot_7 μ kx44 n) kx44 x0 x2 x4
    else
      f_LabXyz_cubeRoot_35 μ (f_LabXyz_cubeRoot_7 μ kx44 n) kx44 x0 (x2 + (x4).toInt64) x4

def f_LabXyz_cubeRoot (μ : mM) (x0 : Int64) : Option (Int64) :=
  f_LabXyz_cubeRoot_7 μ (fun y2 => f_LabXyz_cubeRoot_44 μ y2) 4096 x0 (0 : Int64) (16384 : Int32)

-- R ColourLinker$LabXyz.rootOf(JJ)J
def f_LabXyz_rootOf_48 (μ : mM) (s0 : Int64) : Option (Int64) :=
  some (s0)

def f_LabXyz_rootOf (μ : mM) (x0 : Int64) (x2 : Int64) : Option (Int64) :=
  (f_CL_nearest μ ((32768 : Int64) * x0) x2).bind fun q1 =>
  if q1 ≤ (290 : Int64) then
    (f_CL_nearest μ ((841 : Int64) * q1) (216 : Int64)).bind fun q2 =>
    f_LabXyz_rootOf_48 μ (q2 + (2260 : Int64))
  else
    (f_LabXyz_cubeRoot μ ((134217728 : Int64) * q1)).bind fun q3 =>
    f_LabXyz_rootOf_48 μ q3

