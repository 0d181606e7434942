-- R ColourLinkerModel.value(IIJ)J
def f_Mo_value_202 (μ : mM) (h0 : Nat) (x7 : Int64) : Option (Int64) :=
  some (x7)

def f_Mo_value_177 (μ : mM) (h0 : Nat) (kx202 : Int64 → Option (Int64)) : Nat → Int64 → Int32 → Int64 → Int32 → Option (Int64)
  | 0, _, _, _, _ => none
  | n + 1, x3, x6, x7, x9 =>
  if x6 ≤ x9 then
    kx202 x7
  else
    (f_Mo_near μ (x7 * x3) (65535 : Int64)).bind fun q10 =>
    f_Mo_value_177 μ h0 kx202 n x3 x6 q10 (x9 + (1 : Int32))

def f_Mo_value_75 (μ : mM) (h0 : Nat) (x1 : Int32) (x5 : Int32) (x7 : Int64) (s0 : Int32) : Option (Int64) :=
  ((mrc μ (some h0) 11).bind fun a => f_Mo_word μ a x1 ((x5 + (2 : Int32)) + ((2 : Int32) * s0))).bind fun q7 =>
  ((mrc μ (some h0) 11).bind fun a => f_Mo_word μ a x1 ((x5 + (4 : Int32)) + ((2 : Int32) * s0))).bind fun q8 =>
  (f_Mo_near μ (((q8).toInt64 - (q7).toInt64) * (x7 - ((65535 : Int64) * (s0).toInt64))) (65535 : Int64)).bind fun q9 =>
  some (((q7).toInt64 + q9))

def f_Mo_value (μ : mM) (h0 : Nat) (x1 : Int32) (x2 : Int32) (x3 : Int64) : Option (Int64) :=
  ((mrc μ (some h0) 11).bind fun a => f_Mo_data μ a x1 x2).bind fun q1 =>
  ((mrc μ (some h0) 11).bind fun a => f_Mo_part μ a x1 (q1 + (1 : Int32))).bind fun q2 =>
  ((mrc μ (some h0) 11).bind fun a => f_Mo_part μ a x1 q1).bind fun q3 =>
  if q3 = (1 : Int32) then
    if q2 = 0 then
      some (x3)
    else
      if ((q2 - (2 : Int32))).toInt64 ≤ ((x3 * ((q2 - (1 : Int32))).toInt64) / (65535 : Int64)) then
        f_Mo_value_75 μ h0 x1 q1 (x3 * ((q2 - (1 : Int32))).toInt64) (q2 - (2 : Int32))
      else
        f_Mo_value_75 μ h0 x1 q1 (x3 * ((q2 - (1 : Int32))).toInt64) ((((x3 * ((q2 - (1 : Int32))).toInt64) / (65535 : Int64))).toInt32)
  else
    ((mrc μ (some h0) 11).bind fun a => f_Mo_word μ a x1 (q1 + (4 : Int32))).bind fun q4 =>
    if (q4).toInt64 ≤ x3 then
      f_Mo_value_177 μ h0 (fun y7 => f_Mo_value_202 μ h0 y7) 4096 x3 q2 x3 (1 : Int32)
    else
      ((mrc μ (some h0) 11).bind fun a => f_Mo_word μ a x1 (q1 + (2 : Int32))).bind fun q5 =>
      (f_Mo_clipNear μ ((q5).toInt64 * x3) (256 : Int64)).bind fun q6 =>
      some (q6)

-- R ColourLinkerModel.rising(II)Z
def f_Mo_rising_129 (μ : mM) (h0 : Nat) (s0 : Int32) : Option (Int32) :=
  (mz s0).bind fun v10 =>
  some (v10)

def f_Mo_rising_124 (μ : mM) (h0 : Nat) : Option (Int32) :=
  f_Mo_rising_129 μ h0 (1 : Int32)

def f_Mo_rising_81 (μ : mM) (h0 : Nat) (x4 : Int32) : Option (Int32) :=
  (mz x4).bind fun v9 =>
  some (v9)

def f_Mo_rising_73 (μ : mM) (h0 : Nat) (k : Int32 → Int32 → Int32 → Int32 → Option (Int32)) (kx81 : Int32 → Option (Int32)) (x1 : Int32) (x3 : Int32) (x5 : Int32) (s0 : Int32) : Option (Int32) :=
  k x1 x3 s0 (x5 + (1 : Int32))

def f_Mo_rising_72 (μ : mM) (h0 : Nat) (k : Int32 → Int32 → Int32 → Int32 → Option (Int32)) (kx81 : Int32 → Option (Int32)) (x1 : Int32) (x3 : Int32) (x5 : Int32) : Option (Int32) :=
  f_Mo_rising_73 μ h0 k kx81 x1 x3 x5 (0 : Int32)

def f_Mo_rising_23 (μ : mM) (h0 : Nat) (kx81 : Int32 → Option (Int32)) : Nat → Int32 → Int32 → Int32 → Int32 → Option (Int32)
  | 0, _, _, _, _ => none
  | n + 1, x1, x3, x4, x5 =>
  ((mrc μ (some h0) 11).bind fun a => f_Mo_part μ a x1 (x3 + (1 : Int32))).bind fun q6 =>
  if q6 ≤ x5 then
    kx81 x4
  else
    if x4 = 0 then
      f_Mo_rising_72 μ h0 (f_Mo_rising_23 μ h0 kx81 n) kx81 x1 x3 x5
    else
      ((mrc μ (some h0) 11).bind fun a => f_Mo_word μ a x1 ((x3 + (2 : Int32)) + ((2 : Int32) * x5))).bind fun q7 =>
      ((mrc μ (some h0) 11).bind fun a => f_Mo_word μ a x1 (x3 + ((2 : Int32) * x5))).bind fun q8 =>
      if q7 ≤ q8 then
        f_Mo_rising_72 μ h0 (f_Mo_rising_23 μ h0 kx81 n) kx81 x1 x3 x5
      else
        f_Mo_rising_73 μ h0 (f_Mo_rising_23 μ h0 kx81 n) kx81 x1 x3 x5 (1 : Int32)

def f_Mo_rising (μ : mM) (h0 : Nat) (x1 : Int32) (x2 : Int32) : Option (Int32) :=
  ((mrc μ (some h0) 11).bind fun a => f_Mo_data μ a x1 x2).bind fun q1 =>
  ((mrc μ (some h0) 11).bind fun a => f_Mo_part μ a x1 q1).bind fun q2 =>
  if q2 = (1 : Int32) then
    f_Mo_rising_23 μ h0 (fun y4 => f_Mo_rising_81 μ h0 y4) 4096 x1 q1 (1 : Int32) (1 : Int32)
  else
    ((mrc μ (some h0) 11).bind fun a => f_Mo_word μ a x1 (q1 + (4 : Int32))).bind fun q3 =>
    if (q3).toInt64 = (0 : Int64) then
      f_Mo_rising_124 μ h0 
    else
      ((mrc μ (some h0) 11).bind fun a => f_Mo_value μ a x1 x2 ((q3).toInt64 - (1 : Int64))).bind fun q4 =>
      ((mrc μ (some h0) 11).bind fun a => f_Mo_value μ a x1 x2 ((q3).toInt64)).bind fun q5 =>
      if q5 < q4 then
        f_Mo_rising_129 μ h0 (0 : Int32)
      else
        f_Mo_rising_124 μ h0 

-- R ColourLinkerModel.inverse(IIJ)J
def f_Mo_inverse_60 (μ : mM) (h0 : Nat) (x5 : Int64) : Option (Int64) :=
  some (x5)

def f_Mo_inverse_47 (μ : mM) (h0 : Nat) (k : Int32 → Int32 → Int64 → Int64 → Int64 → Option (Int64)) (kx60 : Int64 → Option (Int64)) (x1 : Int32) (x2 : Int32) (x3 : Int64) (x7 : Int64) (s0 : Int64) : Option (Int64) :=
  k x1 x2 x3 s0 (x7 / (2 : Int64))

def f_Mo_inverse_8 (μ : mM) (h0 : Nat) (kx60 : Int64 → Option (Int64)) : Nat → Int32 → Int32 → Int64 → Int64 → Int64 → Option (Int64)
  | 0, _, _, _, _, _ => none
  | n + 1, x1, x2, x3, x5, x7 =>
  if x7 ≤ (0 : Int64) then
    kx60 x5
  else
    ((mrc μ (some h0) 11).bind fun a => f_Mo_value μ a x1 x2 ((x5 + x7) - (1 : Int64))).bind fun q1 =>
    if x3 ≤ q1 then
      f_Mo_inverse_47 μ h0 (f_Mo_inverse_8 μ h0 kx60 n) kx60 x1 x2 x3 x7 x5
    else
      f_Mo_inverse_47 μ h0 (f_Mo_inverse_8 μ h0 kx60 n) kx60 x1 x2 x3 x7 (x5 + x7)

def f_Mo_inverse (μ : mM) (h0 : Nat) (x1 : Int32) (x2 : Int32) (x3 : Int64) : Option (Int64) :=
  f_Mo_inverse_8 μ h0 (fun y5 => f_Mo_inverse_60 μ h0 y5) 4096 x1 x2 x3 (0 : Int64) (32768 : Int64)

-- R ColourLinkerModel.curve(IIIZ)I
def f_Mo_curve_79 (μ : mM) (h0 : Nat) (s0 : Int64) : Option (Int32) :=
  some ((s0).toInt32)

def f_Mo_curve_55 (μ : mM) (h0 : Nat) (x1 : Int32) (x2 : Int32) (x3 : Int32) (x4 : Int32) : Option (Int32) :=
  if x4 = 0 then
    ((mrc μ (some h0) 11).bind fun a => f_Mo_value μ a x1 x2 ((x3).toInt64)).bind fun q4 =>
    f_Mo_curve_79 μ h0 q4
  else
    ((mrc μ (some h0) 11).bind fun a => f_Mo_inverse μ a x1 x2 ((x3).toInt64)).bind fun q5 =>
    f_Mo_curve_79 μ h0 q5

def f_Mo_curve_53 (μ : mM) (h0 : Nat) : Option (Int32) :=
  some ((-1 : Int32))

def f_Mo_curve_28 (μ : mM) (h0 : Nat) : Option (Int32) :=
  some ((-1 : Int32))

def f_Mo_curve (μ : mM) (h0 : Nat) (x1 : Int32) (x2 : Int32) (x3 : Int32) (x4 : Int32) : Option (Int32) :=
  ((mrc μ (some h0) 11).bind fun a => f_Mo_there μ a x1).bind fun q1 =>
  if q1 = 0 then
    f_Mo_curve_28 μ h0 
  else
    if x2 < (1 : Int32) then
      f_Mo_curve_28 μ h0 
    else
      if (4 : Int32) < x2 then
        f_Mo_curve_28 μ h0 
      else
        if x3 < 0 then
          f_Mo_curve_28 μ h0 
        else
          if x3 ≤ (65535 : Int32) then
            ((mrc μ (some h0) 11).bind fun a => f_Mo_entry μ a x1 x2).bind fun q2 =>
            if q2 < 0 then
              f_Mo_curve_53 μ h0 
            else
              if x4 = 0 then
                f_Mo_curve_55 μ h0 x1 x2 x3 x4
              else
                ((mrc μ (some h0) 11).bind fun a => f_Mo_rising μ a x1 x2).bind fun q3 =>
                if q3 = 0 then
                  f_Mo_curve_53 μ h0 
                else
                  f_Mo_curve_55 μ h0 x1 x2 x3 x4
          else
            f_Mo_curve_28 μ h0 

-- R ColourLinker$Profile.isSourceAlone()Z
def f_Profile_isSourceAlone_15 (μ : mM) (h0 : Nat) (s0 : Int32) : Option (Int32) :=
  (mz s0).bind fun v3 =>
  some (v3)

def f_Profile_isSourceAlone (μ : mM) (h0 : Nat) : Option (Int32) :=
  (mfA μ (some h0) [9] 0).bind fun v1 =>
  (mgI μ (v1) (2 : Int32)).bind fun v2 =>
  if v2 = (1 : Int32) then
    f_Profile_isSourceAlone_15 μ h0 (1 : Int32)
  else
    f_Profile_isSourceAlone_15 μ h0 (0 : Int32)

-- R ColourLinker$Profile.backPiece(II)LColourLinker$Piece;
def f_Profile_backPiece_37 (μ : mM) (h0 : Nat) (s0 : Option Nat) : Option (Option Nat) :=
  some (s0)

def f_Profile_backPiece_21 (μ : mM) (h0 : Nat) (s0 : Option Nat) : Option (Option Nat) :=
  some (s0)

def f_Profile_backPiece (μ : mM) (h0 : Nat) (x1 : Int32) (x2 : Int32) : Option (Option Nat) :=
  ((mrc μ (some h0) 9).bind fun a => f_Profile_gridFor μ a (9 : Int32) x1).bind fun q1 =>
  if q1 = none then
    if x2 = 0 then
      (mfA μ (some h0) [9] 7).bind fun v3 =>
      f_Profile_backPiece_37 μ h0 v3
    else
      (mfA μ (some h0) [9] 8).bind fun v2 =>
      f_Profile_backPiece_37 μ h0 v2
  else
    if x2 = 0 then
      f_Profile_backPiece_21 μ h0 q1
    else
      f_Profile_backPiece_21 μ h0 none

-- R ColourLinker$Matrix.isSingular()Z
def f_Matrix_isSingular_27 (μ : mM) (h0 : Nat) (s0 : Int32) : Option (Int32) :=
  (mz s0).bind fun v3 =>
  some (v3)

def f_Matrix_isSingular_26 (μ : mM) (h0 : Nat) : Option (Int32) :=
  f_Matrix_isSingular_27 μ h0 (0 : Int32)

def f_Matrix_isSingular (μ : mM) (h0 : Nat) : Option (Int32) :=
  (mfJ μ (some h0) [8] 3).bind fun v1 =>
  if v1 ≤ (-16777216 : Int64) then
    f_Matrix_isSingular_26 μ h0 
  else
    (mfJ μ (some h0) [8] 3).bind fun v2 =>
    if (16777216 : Int64) ≤ v2 then
      f_Matrix_isSingular_26 μ h0 
    else
      f_Matrix_isSingular_27 μ h0 (1 : Int32)

