-- R ColourLinkerModel.determinant()J
def f_Mo_determinant (μ : mM) (h0 : Nat) : Option (Int64) :=
  (mfA μ (some h0) [11] 20).bind fun v1 =>
  (mgJ μ (v1) (0 : Int32)).bind fun v2 =>
  (mfA μ (some h0) [11] 20).bind fun v3 =>
  (mgJ μ (v3) (4 : Int32)).bind fun v4 =>
  (mfA μ (some h0) [11] 20).bind fun v5 =>
  (mgJ μ (v5) (8 : Int32)).bind fun v6 =>
  (mfA μ (some h0) [11] 20).bind fun v7 =>
  (mgJ μ (v7) (5 : Int32)).bind fun v8 =>
  (mfA μ (some h0) [11] 20).bind fun v9 =>
  (mgJ μ (v9) (7 : Int32)).bind fun v10 =>
  (mfA μ (some h0) [11] 20).bind fun v11 =>
  (mgJ μ (v11) (1 : Int32)).bind fun v12 =>
  (mfA μ (some h0) [11] 20).bind fun v13 =>
  (mgJ μ (v13) (5 : Int32)).bind fun v14 =>
  (mfA μ (some h0) [11] 20).bind fun v15 =>
  (mgJ μ (v15) (6 : Int32)).bind fun v16 =>
  (mfA μ (some h0) [11] 20).bind fun v17 =>
  (mgJ μ (v17) (3 : Int32)).bind fun v18 =>
  (mfA μ (some h0) [11] 20).bind fun v19 =>
  (mgJ μ (v19) (8 : Int32)).bind fun v20 =>
  (mfA μ (some h0) [11] 20).bind fun v21 =>
  (mgJ μ (v21) (2 : Int32)).bind fun v22 =>
  (mfA μ (some h0) [11] 20).bind fun v23 =>
  (mgJ μ (v23) (3 : Int32)).bind fun v24 =>
  (mfA μ (some h0) [11] 20).bind fun v25 =>
  (mgJ μ (v25) (7 : Int32)).bind fun v26 =>
  (mfA μ (some h0) [11] 20).bind fun v27 =>
  (mgJ μ (v27) (4 : Int32)).bind fun v28 =>
  (mfA μ (some h0) [11] 20).bind fun v29 =>
  (mgJ μ (v29) (6 : Int32)).bind fun v30 =>
  some ((((v2 * ((v4 * v6) - (v8 * v10))) + (v12 * ((v14 * v16) - (v18 * v20)))) + (v22 * ((v24 * v26) - (v28 * v30)))))

-- R ColourLinkerModel.point(I)I
def f_Mo_point_23 (μ : mM) (s0 : Int32) : Option (Int32) :=
  some (s0)

def f_Mo_point (μ : mM) (x0 : Int32) : Option (Int32) :=
  if x0 = 0 then
    f_Mo_point_23 μ (31595 : Int32)
  else
    if x0 = (1 : Int32) then
      f_Mo_point_23 μ (32768 : Int32)
    else
      f_Mo_point_23 μ (27030 : Int32)

-- R ColourLinkerModel.white(II)I
def f_Mo_white_31 (μ : mM) (h0 : Nat) (s0 : Int32) : Option (Int32) :=
  some (s0)

def f_Mo_white (μ : mM) (h0 : Nat) (x1 : Int32) (x2 : Int32) : Option (Int32) :=
  ((mrc μ (some h0) 11).bind fun a => f_Mo_data μ a x1 (12 : Int32)).bind fun q1 =>
  if 0 ≤ q1 then
    ((mrc μ (some h0) 11).bind fun a => f_Mo_word μ a x1 ((q1 + (2 : Int32)) + ((2 : Int32) * x2))).bind fun q2 =>
    f_Mo_white_31 μ h0 q2
  else
    (f_Mo_point μ x2).bind fun q3 =>
    f_Mo_white_31 μ h0 q3

-- R ColourLinkerModel.otherWhite(II)Z
def f_Mo_otherWhite_44 (μ : mM) (h0 : Nat) (x3 : Int32) : Option (Int32) :=
  (mz x3).bind fun v3 =>
  some (v3)

def f_Mo_otherWhite_37 (μ : mM) (h0 : Nat) (k : Int32 → Int32 → Int32 → Int32 → Option (Int32)) (kx44 : Int32 → Option (Int32)) (x1 : Int32) (x2 : Int32) (x4 : Int32) (s0 : Int32) : Option (Int32) :=
  k x1 x2 s0 (x4 + (1 : Int32))

def f_Mo_otherWhite_32 (μ : mM) (h0 : Nat) (k : Int32 → Int32 → Int32 → Int32 → Option (Int32)) (kx44 : Int32 → Option (Int32)) (x1 : Int32) (x2 : Int32) (x4 : Int32) : Option (Int32) :=
  f_Mo_otherWhite_37 μ h0 k kx44 x1 x2 x4 (1 : Int32)

def f_Mo_otherWhite_5 (μ : mM) (h0 : Nat) (kx44 : Int32 → Option (Int32)) : Nat → Int32 → Int32 → Int32 → Int32 → Option (Int32)
  | 0, _, _, _, _ => none
  | n + 1, x1, x2, x3, x4 =>
  if (3 : Int32) ≤ x4 then
    kx44 x3
  else
    if x3 = 0 then
      ((mrc μ (some h0) 11).bind fun a => f_Mo_white μ a x1 x4).bind fun q1 =>
      ((mrc μ (some h0) 11).bind fun a => f_Mo_white μ a x2 x4).bind fun q2 =>
      if q1 = q2 then
        f_Mo_otherWhite_37 μ h0 (f_Mo_otherWhite_5 μ h0 kx44 n) kx44 x1 x2 x4 (0 : Int32)
      else
        f_Mo_otherWhite_32 μ h0 (f_Mo_otherWhite_5 μ h0 kx44 n) kx44 x1 x2 x4
    else
      f_Mo_otherWhite_32 μ h0 (f_Mo_otherWhite_5 μ h0 kx44 n) kx44 x1 x2 x4

def f_Mo_otherWhite (μ : mM) (h0 : Nat) (x1 : Int32) (x2 : Int32) : Option (Int32) :=
  f_Mo_otherWhite_5 μ h0 (fun y3 => f_Mo_otherWhite_44 μ h0 y3) 4096 x1 x2 (0 : Int32) (0 : Int32)

-- R ColourLinkerModel.plain(II)Z
def f_Mo_plain_33 (μ : mM) (h0 : Nat) (s0 : Int32) : Option (Int32) :=
  (mz s0).bind fun v4 =>
  some (v4)

def f_Mo_plain_32 (μ : mM) (h0 : Nat) : Option (Int32) :=
  f_Mo_plain_33 μ h0 (0 : Int32)

def f_Mo_plain (μ : mM) (h0 : Nat) (x1 : Int32) (x2 : Int32) : Option (Int32) :=
  ((mrc μ (some h0) 11).bind fun a => f_Mo_data μ a x1 x2).bind fun q1 =>
  ((mrc μ (some h0) 11).bind fun a => f_Mo_part μ a x1 q1).bind fun q2 =>
  if q2 = (1 : Int32) then
    ((mrc μ (some h0) 11).bind fun a => f_Mo_part μ a x1 (q1 + (1 : Int32))).bind fun q3 =>
    if q3 = 0 then
      f_Mo_plain_33 μ h0 (1 : Int32)
    else
      f_Mo_plain_32 μ h0 
  else
    f_Mo_plain_32 μ h0 

-- W ColourLinkerModel.put(IIII)V
def f_Mo_put (h0 : Nat) (μ : mM) (x1 : Int32) (x2 : Int32) (x3 : Int32) (x4 : Int32) : Option (mM) :=
  (mfA μ (some h0) [11] 12).bind fun v1 =>
  (mfI μ (some h0) [11] 16).bind fun v2 =>
  (msI μ (v1) v2 x1).bind fun m3 =>
  (mfA m3 (some h0) [11] 13).bind fun v4 =>
  (mfI m3 (some h0) [11] 16).bind fun v5 =>
  (msI m3 (v4) v5 x2).bind fun m6 =>
  (mfA m6 (some h0) [11] 14).bind fun v7 =>
  (mfI m6 (some h0) [11] 16).bind fun v8 =>
  (msI m6 (v7) v8 x3).bind fun m9 =>
  (mfA m9 (some h0) [11] 15).bind fun v10 =>
  (mfI m9 (some h0) [11] 16).bind fun v11 =>
  (msI m9 (v10) v11 x4).bind fun m12 =>
  (mfI m12 (some h0) [11] 16).bind fun v13 =>
  (mpI m12 (some h0) [11] 16 (v13 + (1 : Int32))).bind fun m14 =>
  some (m14)

-- W ColourLinkerModel.putCurves(II)V
def f_Mo_putCurves_62 (h0 : Nat) (μ : mM) : Option (mM) :=
  some (μ)

def f_Mo_putCurves_49 (h0 : Nat) (μ : mM) (x1 : Int32) (x2 : Int32) (s0 : Int32) : Option (mM) :=
  if s0 = 0 then
    ((mrc μ (some h0) 11).bind fun a => f_Mo_put a μ x1 x2 (0 : Int32) (0 : Int32)).bind fun q6 =>
    f_Mo_putCurves_62 h0 q6
  else
    f_Mo_putCurves_62 h0 μ

def f_Mo_putCurves_48 (h0 : Nat) (μ : mM) (x1 : Int32) (x2 : Int32) : Option (mM) :=
  f_Mo_putCurves_49 h0 μ x1 x2 (0 : Int32)

def f_Mo_putCurves (h0 : Nat) (μ : mM) (x1 : Int32) (x2 : Int32) : Option (mM) :=
  ((mrc μ (some h0) 11).bind fun a => f_Mo_single μ a x2).bind fun q1 =>
  if q1 = 0 then
    ((mrc μ (some h0) 11).bind fun a => f_Mo_plain μ a x2 (2 : Int32)).bind fun q2 =>
    if q2 = 0 then
      f_Mo_putCurves_48 h0 μ x1 x2
    else
      ((mrc μ (some h0) 11).bind fun a => f_Mo_plain μ a x2 (3 : Int32)).bind fun q3 =>
      if q3 = 0 then
        f_Mo_putCurves_48 h0 μ x1 x2
      else
        ((mrc μ (some h0) 11).bind fun a => f_Mo_plain μ a x2 (4 : Int32)).bind fun q4 =>
        if q4 = 0 then
          f_Mo_putCurves_48 h0 μ x1 x2
        else
          f_Mo_putCurves_49 h0 μ x1 x2 (1 : Int32)
  else
    ((mrc μ (some h0) 11).bind fun a => f_Mo_plain μ a x2 (1 : Int32)).bind fun q5 =>
    f_Mo_putCurves_49 h0 μ x1 x2 q5

-- W ColourLinkerModel.putMatrix(II)V
def f_Mo_putMatrix_70 (h0 : Nat) (μ : mM) : Option (mM) :=
  some (μ)

def f_Mo_putMatrix_58 (h0 : Nat) (μ : mM) (x1 : Int32) (x2 : Int32) (x3 : Int32) : Option (mM) :=
  if x3 = 0 then
    ((mrc μ (some h0) 11).bind fun a => f_Mo_put a μ x1 x2 (0 : Int32) (0 : Int32)).bind fun q4 =>
    f_Mo_putMatrix_70 h0 q4
  else
    f_Mo_putMatrix_70 h0 μ

def f_Mo_putMatrix_51 (h0 : Nat) (k : mM → Int32 → Int32 → Int32 → Int32 → Option (mM)) (kx58 : mM → Int32 → Int32 → Int32 → Option (mM)) (μ : mM) (x1 : Int32) (x2 : Int32) (x4 : Int32) (s0 : Int32) : Option (mM) :=
  k μ x1 x2 s0 (x4 + (1 : Int32))

def f_Mo_putMatrix_50 (h0 : Nat) (k : mM → Int32 → Int32 → Int32 → Int32 → Option (mM)) (kx58 : mM → Int32 → Int32 → Int32 → Option (mM)) (μ : mM) (x1 : Int32) (x2 : Int32) (x4 : Int32) : Option (mM) :=
  f_Mo_putMatrix_51 h0 k kx58 μ x1 x2 x4 (0 : Int32)

def f_Mo_putMatrix_42 (h0 : Nat) (k : mM → Int32 → Int32 → Int32 → Int32 → Option (mM)) (kx58 : mM → Int32 → Int32 → Int32 → Option (mM)) (μ : mM) (x1 : Int32) (x2 : Int32) (x4 : Int32) (s0 : Int64) (s1 : Int64) : Option (mM) :=
  if s0 = s1 then
    f_Mo_putMatrix_51 h0 k kx58 μ x1 x2 x4 (1 : Int32)
  else
    f_Mo_putMatrix_50 h0 k kx58 μ x1 x2 x4

def f_Mo_putMatrix_10 (h0 : Nat) (kx58 : mM → Int32 → Int32 → Int32 → Option (mM)) : Nat → mM → Int32 → Int32 → Int32 → Int32 → Option (mM)
  | 0, _, _, _, _, _ => none
  | n + 1, μ, x1, x2, x3, x4 =>
  if (9 : Int32) ≤ x4 then
    kx58 μ x1 x2 x3
  else
    if x3 = 0 then
      f_Mo_putMatrix_50 h0 (f_Mo_putMatrix_10 h0 kx58 n) kx58 μ x1 x2 x4
    else
      (mfA μ (some h0) [11] 20).bind fun v2 =>
      (mgJ μ (v2) x4).bind fun v3 =>
      if (x4 - x4 / (4 : Int32) * (4 : Int32)) = 0 then
        f_Mo_putMatrix_42 h0 (f_Mo_putMatrix_10 h0 kx58 n) kx58 μ x1 x2 x4 v3 (4096 : Int64)
      else
        f_Mo_putMatrix_42 h0 (f_Mo_putMatrix_10 h0 kx58 n) kx58 μ x1 x2 x4 v3 (0 : Int64)

def f_Mo_putMatrix (h0 : Nat) (μ : mM) (x1 : Int32) (x2 : Int32) : Option (mM) :=
  ((mrc μ (some h0) 11).bind fun a => f_Mo_takeMatrix a μ x2).bind fun q1 =>
  f_Mo_putMatrix_10 h0 (fun μ y1 y2 y3 => f_Mo_putMatrix_58 h0 μ y1 y2 y3) 4096 q1 x1 x2 (1 : Int32) (0 : Int32)

-- W ColourLinkerModel.forth(II)V
def f_Mo_forth_61 (h0 : Nat) (μ : mM) : Option (mM) :=
  some (μ)

def f_Mo_forth (h0 : Nat) (μ : mM) (x1 : Int32) (x2 : Int32) : Option (mM) :=
  ((mrc μ (some h0) 11).bind fun a => f_Mo_grid μ a x1 (6 : Int32) x2).bind fun q1 =>
  ((mrc μ (some h0) 11).bind fun a => f_Mo_single μ a x1).bind fun q2 =>
  if q2 = 0 then
    if q1 ≤ 0 then
      ((mrc μ (some h0) 11).bind fun a => f_Mo_putCurves a μ (1 : Int32) x1).bind fun q3 =>
      ((mrc q3 (some h0) 11).bind fun a => f_Mo_putMatrix a q3 (2 : Int32) x1).bind fun q4 =>
      f_Mo_forth_61 h0 q4
    else
      ((mrc μ (some h0) 11).bind fun a => f_Mo_put a μ (3 : Int32) x1 q1 (0 : Int32)).bind fun q5 =>
      f_Mo_forth_61 h0 q5
  else
    ((mrc μ (some h0) 11).bind fun a => f_Mo_putCurves a μ (1 : Int32) x1).bind fun q6 =>
    ((mrc q6 (some h0) 11).bind fun a => f_Mo_put a q6 (4 : Int32) x1 (0 : Int32) (0 : Int32)).bind fun q7 =>
    f_Mo_forth_61 h0 q7

