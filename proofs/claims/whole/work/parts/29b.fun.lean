-- W ColourLinkerModel.toLab()V
def f_Mo_toLab (h0 : Nat) (μ : mM) : Option (mM) :=
  (mfA μ (some h0) [11] 19).bind fun v1 =>
  (mgJ μ (v1) (0 : Int32)).bind fun v2 =>
  (f_Mo_root μ v2 (31595 : Int64)).bind fun q3 =>
  (mfA μ (some h0) [11] 19).bind fun v4 =>
  (mgJ μ (v4) (1 : Int32)).bind fun v5 =>
  (f_Mo_root μ v5 (32768 : Int64)).bind fun q6 =>
  (mfA μ (some h0) [11] 19).bind fun v7 =>
  (mgJ μ (v7) (2 : Int32)).bind fun v8 =>
  (f_Mo_root μ v8 (27030 : Int64)).bind fun q9 =>
  (mfA μ (some h0) [11] 18).bind fun v10 =>
  (f_Mo_clipNear μ ((((116 : Int64) * q6) - (262144 : Int64)) * (65535 : Int64)) (1638400 : Int64)).bind fun q11 =>
  (msJ μ (v10) (0 : Int32) q11).bind fun m12 =>
  (mfA m12 (some h0) [11] 18).bind fun v13 =>
  (f_Mo_near m12 ((128500 : Int64) * (q3 - q6)) (16384 : Int64)).bind fun q14 =>
  (f_Mo_clip m12 ((32896 : Int64) + q14)).bind fun q15 =>
  (msJ m12 (v13) (1 : Int32) q15).bind fun m16 =>
  (mfA m16 (some h0) [11] 18).bind fun v17 =>
  (f_Mo_near m16 ((51400 : Int64) * (q6 - q9)) (16384 : Int64)).bind fun q18 =>
  (f_Mo_clip m16 ((32896 : Int64) + q18)).bind fun q19 =>
  (msJ m16 (v17) (2 : Int32) q19).bind fun m20 =>
  some (m20)

-- R ColourLinkerModel.cube(J)J
def f_Mo_cube_37 (μ : mM) (s0 : Int64) : Option (Int64) :=
  some (s0)

def f_Mo_cube (μ : mM) (x0 : Int64) : Option (Int64) :=
  if x0 ≤ (3389 : Int64) then
    (f_Mo_near μ ((x0 - (2260 : Int64)) * (216 : Int64)) (841 : Int64)).bind fun q1 =>
    f_Mo_cube_37 μ q1
  else
    (f_Mo_near μ ((x0 * x0) * x0) (134217728 : Int64)).bind fun q2 =>
    f_Mo_cube_37 μ q2

-- W ColourLinkerModel.toXyz()V
def f_Mo_toXyz (h0 : Nat) (μ : mM) : Option (mM) :=
  (mfA μ (some h0) [11] 19).bind fun v1 =>
  (mgJ μ (v1) (0 : Int32)).bind fun v2 =>
  (f_Mo_near μ ((((100 : Int64) * v2) + (1048560 : Int64)) * (16384 : Int64)) (7602060 : Int64)).bind fun q3 =>
  (mfA μ (some h0) [11] 19).bind fun v4 =>
  (mgJ μ (v4) (1 : Int32)).bind fun v5 =>
  (f_Mo_near μ ((v5 - (32896 : Int64)) * (16384 : Int64)) (128500 : Int64)).bind fun q6 =>
  (mfA μ (some h0) [11] 19).bind fun v7 =>
  (mgJ μ (v7) (2 : Int32)).bind fun v8 =>
  (f_Mo_near μ ((v8 - (32896 : Int64)) * (16384 : Int64)) (51400 : Int64)).bind fun q9 =>
  (f_Mo_cube μ (q3 + q6)).bind fun q10 =>
  (f_Mo_cube μ (q3 - q9)).bind fun q11 =>
  (mfA μ (some h0) [11] 18).bind fun v12 =>
  (f_Mo_clipNear μ ((31595 : Int64) * q10) (32768 : Int64)).bind fun q13 =>
  (msJ μ (v12) (0 : Int32) q13).bind fun m14 =>
  (mfA m14 (some h0) [11] 18).bind fun v15 =>
  (f_Mo_cube m14 q3).bind fun q16 =>
  (f_Mo_clip m14 q16).bind fun q17 =>
  (msJ m14 (v15) (1 : Int32) q17).bind fun m18 =>
  (mfA m18 (some h0) [11] 18).bind fun v19 =>
  (f_Mo_clipNear m18 ((27030 : Int64) * q11) (32768 : Int64)).bind fun q20 =>
  (msJ m18 (v19) (2 : Int32) q20).bind fun m21 =>
  some (m21)

-- W ColourLinkerModel.gather(I)V
def f_Mo_gather_38 (h0 : Nat) (μ : mM) (s0 : Option Nat) (s1 : Int32) (s2 : Int64) : Option (mM) :=
  (msJ μ (s0) s1 s2).bind fun m8 =>
  (mfA m8 (some h0) [11] 18).bind fun v9 =>
  (msJ m8 (v9) (1 : Int32) (0 : Int64)).bind fun m10 =>
  (mfA m10 (some h0) [11] 18).bind fun v11 =>
  (msJ m10 (v11) (2 : Int32) (0 : Int64)).bind fun m12 =>
  some (m12)

def f_Mo_gather (h0 : Nat) (μ : mM) (x1 : Int32) : Option (mM) :=
  (mfA μ (some h0) [11] 18).bind fun v1 =>
  ((mrc μ (some h0) 11).bind fun a => f_Mo_lab μ a x1).bind fun q2 =>
  if q2 = 0 then
    (mfA μ (some h0) [11] 19).bind fun v3 =>
    (mgJ μ (v3) (1 : Int32)).bind fun v4 =>
    (f_Mo_clipNear μ ((65535 : Int64) * v4) (32768 : Int64)).bind fun q5 =>
    f_Mo_gather_38 h0 μ v1 (0 : Int32) q5
  else
    (mfA μ (some h0) [11] 19).bind fun v6 =>
    (mgJ μ (v6) (0 : Int32)).bind fun v7 =>
    f_Mo_gather_38 h0 μ v1 (0 : Int32) v7

-- W ColourLinkerModel.matrixBack(I)V
def f_Mo_matrixBack_104 (h0 : Nat) (μ : mM) : Option (mM) :=
  some (μ)

def f_Mo_matrixBack_97 (h0 : Nat) (k : mM → Int32 → Int64 → Int32 → Option (mM)) (kx104 : mM → Option (mM)) (μ : mM) (x1 : Int32) (x2 : Int64) (x4 : Int32) (s0 : Option Nat) (s1 : Int32) (s2 : Int64) : Option (mM) :=
  (msJ μ (s0) s1 s2).bind fun m12 =>
  k m12 x1 x2 (x4 + (1 : Int32))

def f_Mo_matrixBack_58 (h0 : Nat) (k : mM → Int32 → Int64 → Int32 → Option (mM)) (kx104 : mM → Option (mM)) (μ : mM) (x1 : Int32) (x2 : Int64) (x4 : Int32) : Option (mM) :=
  ((mrc μ (some h0) 11).bind fun a => f_Mo_determinant μ a).bind fun q8 =>
  (mfA μ (some h0) [11] 18).bind fun v9 =>
  if (0 : Int64) ≤ x2 then
    (f_Mo_clipNear μ ((4096 : Int64) * q8) x2).bind fun q10 =>
    f_Mo_matrixBack_97 h0 k kx104 μ x1 x2 x4 v9 x4 q10
  else
    (f_Mo_clipNear μ (-((4096 : Int64) * q8)) (-x2)).bind fun q11 =>
    f_Mo_matrixBack_97 h0 k kx104 μ x1 x2 x4 v9 x4 q11

def f_Mo_matrixBack_27 (h0 : Nat) (kx58 : mM → Int32 → Int64 → Int32 → Option (mM)) : Nat → mM → Int32 → Int64 → Int32 → Int32 → Option (mM)
  | 0, _, _, _, _, _ => none
  | n + 1, μ, x1, x2, x4, x5 =>
  if (3 : Int32) ≤ x5 then
    kx58 μ x1 x2 x4
  else
    (mfA μ (some h0) [11] 20).bind fun v4 =>
    (mfA μ (some h0) [11] 19).bind fun v5 =>
    (mgJ μ (v5) x5).bind fun v6 =>
    (msJ μ (v4) (((3 : Int32) * x5) + x4) v6).bind fun m7 =>
    f_Mo_matrixBack_27 h0 kx58 n m7 x1 x2 x4 (x5 + (1 : Int32))

def f_Mo_matrixBack_13 (h0 : Nat) (kx104 : mM → Option (mM)) : Nat → mM → Int32 → Int64 → Int32 → Option (mM)
  | 0, _, _, _, _ => none
  | n + 1, μ, x1, x2, x4 =>
  if (3 : Int32) ≤ x4 then
    kx104 μ
  else
    ((mrc μ (some h0) 11).bind fun a => f_Mo_takeMatrix a μ x1).bind fun q3 =>
    f_Mo_matrixBack_27 h0 (fun μ y1 y2 y4 => f_Mo_matrixBack_58 h0 (f_Mo_matrixBack_13 h0 kx104 n) kx104 μ y1 y2 y4) 4096 q3 x1 x2 x4 (0 : Int32)

def f_Mo_matrixBack (h0 : Nat) (μ : mM) (x1 : Int32) : Option (mM) :=
  ((mrc μ (some h0) 11).bind fun a => f_Mo_takeMatrix a μ x1).bind fun q1 =>
  ((mrc q1 (some h0) 11).bind fun a => f_Mo_determinant q1 a).bind fun q2 =>
  f_Mo_matrixBack_13 h0 (fun μ => f_Mo_matrixBack_104 h0 μ) 4096 q1 x1 q2 (0 : Int32)

