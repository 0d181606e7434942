-- W ColourLinker$LabXyz.turnToLab([I)V
def f_LabXyz_turnToLab (μ : mM) (x0 : Option Nat) : Option (mM) :=
  (mgI μ (x0) (0 : Int32)).bind fun v1 =>
  (mgD (0 : Int32)).bind fun v2 =>
  (f_LabXyz_rootOf μ ((v1).toInt64) ((v2).toInt64)).bind fun q3 =>
  (mgI μ (x0) (1 : Int32)).bind fun v4 =>
  (mgD (1 : Int32)).bind fun v5 =>
  (f_LabXyz_rootOf μ ((v4).toInt64) ((v5).toInt64)).bind fun q6 =>
  (mgI μ (x0) (2 : Int32)).bind fun v7 =>
  (mgD (2 : Int32)).bind fun v8 =>
  (f_LabXyz_rootOf μ ((v7).toInt64) ((v8).toInt64)).bind fun q9 =>
  (f_CL_nearest μ ((((116 : Int64) * q6) - (262144 : Int64)) * (65535 : Int64)) (1638400 : Int64)).bind fun q10 =>
  (f_CL_clip μ q10).bind fun q11 =>
  (msI μ (x0) (0 : Int32) q11).bind fun m12 =>
  (f_CL_nearest m12 ((128500 : Int64) * (q3 - q6)) (16384 : Int64)).bind fun q13 =>
  (f_CL_clip m12 ((32896 : Int64) + q13)).bind fun q14 =>
  (msI m12 (x0) (1 : Int32) q14).bind fun m15 =>
  (f_CL_nearest m15 ((51400 : Int64) * (q6 - q9)) (16384 : Int64)).bind fun q16 =>
  (f_CL_clip m15 ((32896 : Int64) + q16)).bind fun q17 =>
  (msI m15 (x0) (2 : Int32) q17).bind fun m18 =>
  some (m18)

-- R ColourLinker$LabXyz.cubeOf(J)J
def f_LabXyz_cubeOf_37 (μ : mM) (s0 : Int64) : Option (Int64) :=
  some (s0)

def f_LabXyz_cubeOf (μ : mM) (x0 : Int64) : Option (Int64) :=
  if x0 ≤ (3389 : Int64) then
    (f_CL_nearest μ ((x0 - (2260 : Int64)) * (216 : Int64)) (841 : Int64)).bind fun q1 =>
    f_LabXyz_cubeOf_37 μ q1
  else
    (f_CL_nearest μ ((x0 * x0) * x0) (134217728 : Int64)).bind fun q2 =>
    f_LabXyz_cubeOf_37 μ q2

-- W ColourLinker$LabXyz.turnToXyz([I)V
def f_LabXyz_turnToXyz (μ : mM) (x0 : Option Nat) : Option (mM) :=
  (mgI μ (x0) (0 : Int32)).bind fun v1 =>
  (f_CL_nearest μ ((((100 : Int64) * (v1).toInt64) + (1048560 : Int64)) * (16384 : Int64)) (7602060 : Int64)).bind fun q2 =>
  (mgI μ (x0) (1 : Int32)).bind fun v3 =>
  (f_CL_nearest μ (((v3 - (32896 : Int32))).toInt64 * (16384 : Int64)) (128500 : Int64)).bind fun q4 =>
  (mgI μ (x0) (2 : Int32)).bind fun v5 =>
  (f_CL_nearest μ (((v5 - (32896 : Int32))).toInt64 * (16384 : Int64)) (51400 : Int64)).bind fun q6 =>
  (mgD (0 : Int32)).bind fun v7 =>
  (f_LabXyz_cubeOf μ (q2 + q4)).bind fun q8 =>
  (f_CL_nearest μ ((v7).toInt64 * q8) (32768 : Int64)).bind fun q9 =>
  (f_CL_clip μ q9).bind fun q10 =>
  (msI μ (x0) (0 : Int32) q10).bind fun m11 =>
  (f_LabXyz_cubeOf m11 q2).bind fun q12 =>
  (f_CL_clip m11 q12).bind fun q13 =>
  (msI m11 (x0) (1 : Int32) q13).bind fun m14 =>
  (mgD (2 : Int32)).bind fun v15 =>
  (f_LabXyz_cubeOf m14 (q2 - q6)).bind fun q16 =>
  (f_CL_nearest m14 ((v15).toInt64 * q16) (32768 : Int64)).bind fun q17 =>
  (f_CL_clip m14 q17).bind fun q18 =>
  (msI m14 (x0) (2 : Int32) q18).bind fun m19 =>
  some (m19)

-- W ColourLinker$LabXyz.run([I)V
def f_LabXyz_run_19 (h0 : Nat) (μ : mM) : Option (mM) :=
  some (μ)

def f_LabXyz_run (h0 : Nat) (μ : mM) (x1 : Option Nat) : Option (mM) :=
  (mfI μ (some h0) [6] 0).bind fun v1 =>
  if v1 = (5 : Int32) then
    (f_LabXyz_turnToLab μ x1).bind fun q3 =>
    f_LabXyz_run_19 h0 q3
  else
    (f_LabXyz_turnToXyz μ x1).bind fun q2 =>
    f_LabXyz_run_19 h0 q2

-- W ColourLinker$Matrix.run([I)V
def f_Matrix_run_91 (h0 : Nat) (μ : mM) : Option (mM) :=
  some (μ)

def f_Matrix_run_20 (h0 : Nat) (kx91 : mM → Option (mM)) : Nat → mM → (Option Nat) → Int64 → Int64 → Int64 → Int32 → Option (mM)
  | 0, _, _, _, _, _, _ => none
  | n + 1, μ, x1, x2, x4, x6, x8 =>
  if (3 : Int32) ≤ x8 then
    kx91 μ
  else
    (mfA μ (some h0) [8] 2).bind fun v4 =>
    (mgJ μ (v4) ((3 : Int32) * x8)).bind fun v5 =>
    (mfA μ (some h0) [8] 2).bind fun v6 =>
    (mgJ μ (v6) (((3 : Int32) * x8) + (1 : Int32))).bind fun v7 =>
    (mfA μ (some h0) [8] 2).bind fun v8 =>
    (mgJ μ (v8) (((3 : Int32) * x8) + (2 : Int32))).bind fun v9 =>
    (mfJ μ (some h0) [8] 3).bind fun v10 =>
    (f_CL_nearest μ (((v5 * x2) + (v7 * x4)) + (v9 * x6)) v10).bind fun q11 =>
    (f_CL_clip μ q11).bind fun q12 =>
    (msI μ (x1) x8 q12).bind fun m13 =>
    f_Matrix_run_20 h0 kx91 n m13 x1 x2 x4 x6 (x8 + (1 : Int32))

def f_Matrix_run (h0 : Nat) (μ : mM) (x1 : Option Nat) : Option (mM) :=
  (mgI μ (x1) (0 : Int32)).bind fun v1 =>
  (mgI μ (x1) (1 : Int32)).bind fun v2 =>
  (mgI μ (x1) (2 : Int32)).bind fun v3 =>
  f_Matrix_run_20 h0 (fun μ => f_Matrix_run_91 h0 μ) 4096 μ x1 ((v1).toInt64) ((v2).toInt64) ((v3).toInt64) (0 : Int32)

def f_Piece_run (h0 : Nat) (μ : mM) (x1 : Option Nat) : Option mM := match μ h0 with
  | some (.inr (0, _)) => f_Adjust_run h0 μ x1
  | some (.inr (3, _)) => f_Curves_run h0 μ x1
  | some (.inr (4, _)) => f_Gray_run h0 μ x1
  | some (.inr (5, _)) => f_Grid_run h0 μ x1
  | some (.inr (6, _)) => f_LabXyz_run h0 μ x1
  | some (.inr (8, _)) => f_Matrix_run h0 μ x1
  | _ => none

-- R ColourLinker$Profile.space()I
def f_Profile_space (μ : mM) (h0 : Nat) : Option (Int32) :=
  (mfA μ (some h0) [9] 0).bind fun v1 =>
  (mgI μ (v1) (4 : Int32)).bind fun v2 =>
  some (v2)

-- N ColourLinker$Profile.measureBlack()V
def f_Profile_measureBlack_75 (h0 : Nat) (μ : mM) (z w : Nat) : Option (mM × Nat × Nat) :=
  some (μ, z, w)

def f_Profile_measureBlack_60 (h0 : Nat) (k : mM → Nat → Nat → (Option Nat) → Int32 → Option (mM × Nat × Nat)) (kx75 : mM → Nat → Nat → Option (mM × Nat × Nat)) (μ : mM) (z w : Nat) (x1 : Option Nat) (x2 : Int32) : Option (mM × Nat × Nat) :=
  (mfA μ (some h0) [9] 10).bind fun v7 =>
  (mgI μ (x1) (1 : Int32)).bind fun v8 =>
  (msI μ (v7) x2 v8).bind fun m9 =>
  k m9 z w x1 (x2 + (1 : Int32))

def f_Profile_measureBlack_48 (h0 : Nat) (k : mM → Nat → Nat → (Option Nat) → Int32 → Option (mM × Nat × Nat)) (kx75 : mM → Nat → Nat → Option (mM × Nat × Nat)) (μ : mM) (z w : Nat) (x1 : Option Nat) (x2 : Int32) : Option (mM × Nat × Nat) :=
  ((mrc μ (some h0) 9).bind fun a => f_Profile_space μ a).bind fun q5 =>
  if q5 = (1 : Int32) then
    (f_LabXyz_turnToXyz μ x1).bind fun q6 =>
    f_Profile_measureBlack_60 h0 k kx75 q6 z w x1 x2
  else
    f_Profile_measureBlack_60 h0 k kx75 μ z w x1 x2

def f_Profile_measureBlack_42 (h0 : Nat) (k : mM → Nat → Nat → (Option Nat) → Int32 → Int32 → Option (mM × Nat × Nat)) (kx48 : mM → Nat → Nat → (Option Nat) → Int32 → Option (mM × Nat × Nat)) (μ : mM) (z w : Nat) (x1 : Option Nat) (x2 : Int32) (x3 : Int32) : Option (mM × Nat × Nat) :=
  k μ z w x1 x2 (x3 + (1 : Int32))

def f_Profile_measureBlack_18 (h0 : Nat) (kx48 : mM → Nat → Nat → (Option Nat) → Int32 → Option (mM × Nat × Nat)) : Nat → mM → Nat → Nat → (Option Nat) → Int32 → Int32 → Option (mM × Nat × Nat)
  | 0, _, _, _, _, _, _ => none
  | n + 1, μ, z, w, x1, x2, x3 =>
  if (2 : Int32) ≤ x3 then
    kx48 μ z w x1 x2
  else
    ((mrc μ (some h0) 9).bind fun a => f_Profile_forthPiece μ a x2 x3).bind fun q3 =>
    if q3 = none then
      f_Profile_measureBlack_42 h0 (f_Profile_measureBlack_18 h0 kx48 n) kx48 μ z w x1 x2 x3
    else
      ((q3).bind fun a => f_Piece_run a μ x1).bind fun q4 =>
      f_Profile_measureBlack_42 h0 (f_Profile_measureBlack_18 h0 kx48 n) kx48 q4 z w x1 x2 x3

def f_Profile_measureBlack_6 (h0 : Nat) (kx75 : mM → Nat → Nat → Option (mM × Nat × Nat)) : Nat → mM → Nat → Nat → (Option Nat) → Int32 → Option (mM × Nat × Nat)
  | 0, _, _, _, _, _ => none
  | n + 1, μ, z, w, x1, x2 =>
  if (3 : Int32) ≤ x2 then
    kx75 μ z w
  else
    (f_Arrays_fill μ x1 (0 : Int32)).bind fun q2 =>
    f_Profile_measureBlack_18 h0 (fun μ z w y1 y2 => f_Profile_measureBlack_48 h0 (f_Profile_measureBlack_6 h0 kx75 n) kx75 μ z w y1 y2) 4096 q2 z w x1 x2 (0 : Int32)

def f_Profile_measureBlack (h0 : Nat) (μ : mM) (z w : Nat) : Option (mM × Nat × Nat) :=
  mmV z w z w <|
  (mna μ z 0 (3 : Int32)).bind fun m1 => mmV z w (z + 1) (w + ((3 : Int32)).toNatClampNeg) <|
  f_Profile_measureBlack_6 h0 (fun μ z w => f_Profile_measureBlack_75 h0 μ z w) 4096 m1 (z + 1) (w + ((3 : Int32)).toNatClampNeg) (some z) (0 : Int32)

-- N ColourLinker.parse()I
def f_CL_parse (h0 : Nat) (μ : mM) (z w : Nat) : Option (Int32 × mM × Nat × Nat) :=
  mmT z w z w <|
  (mfI μ (some h0) [10] 2).bind fun v1 =>
  if v1 < (6 : Int32) then
    (mfA μ (some h0) [10] 0).bind fun v2 =>
    ((mrc μ (v2) 1).bind fun a => f_Buffer_fault μ a).bind fun q3 =>
    if q3 = 0 then
      (mnew μ z 9 [.null, .int 0, .null, .null, .null, .null, .null, .null, .null, .null, .null]).bind fun m4 => mmT z w (z + 1) (w + 11) <|
      (mfA m4 (some h0) [10] 0).bind fun v5 =>
      ((mrc m4 (v5) 1).bind fun a => f_Buffer_plainForm a m4 (z + 1) (w + 11)).bind fun q6 => mmT (z + 1) (w + 11) q6.2.2.1 q6.2.2.2 <|
      (mfA q6.2.1 (some h0) [10] 0).bind fun v7 =>
      ((mrc q6.2.1 (v7) 1).bind fun a => f_Buffer_countElements q6.2.1 a).bind fun q8 =>
      ((some z).bind fun a => f_Profile_init a q6.2.1 q6.2.2.1 q6.2.2.2 q6.1 q8).bind fun q9 => mmT q6.2.2.1 q6.2.2.2 q9.2.1 q9.2.2 <|
      ((mrc q9.1 (some z) 9).bind fun a => f_Profile_measureBlack a q9.1 q9.2.1 q9.2.2).bind fun q10 => mmT q9.2.1 q9.2.2 q10.2.1 q10.2.2 <|
      (mfA q10.1 (some h0) [10] 1).bind fun v11 =>
      (mfI q10.1 (some h0) [10] 2).bind fun v12 =>
      (msA q10.1 (v11) v12 (some z)).bind fun m13 =>
      (mfI m13 (some h0) [10] 2).bind fun v14 =>
      (mpI m13 (some h0) [10] 2 (v14 + (1 : Int32))).bind fun m15 =>
      (mfI m15 (some h0) [10] 2).bind fun v16 =>
      some ((v16 - (1 : Int32)), m15, q10.2.1, q10.2.2)
    else
      some (q3, μ, z, w)
  else
    some ((-8 : Int32), μ, z, w)

