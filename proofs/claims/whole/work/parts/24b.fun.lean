-- R ColourLinker$Curves.areRising()Z
def f_Curves_areRising_41 (μ : mM) (h0 : Nat) (x1 : Int32) : Option (Int32) :=
  (mz x1).bind fun v6 =>
  some (v6)

def f_Curves_areRising_34 (μ : mM) (h0 : Nat) (k : Int32 → Int32 → Option (Int32)) (kx41 : Int32 → Option (Int32)) (x2 : Int32) (s0 : Int32) : Option (Int32) :=
  k s0 (x2 + (1 : Int32))

def f_Curves_areRising_33 (μ : mM) (h0 : Nat) (k : Int32 → Int32 → Option (Int32)) (kx41 : Int32 → Option (Int32)) (x2 : Int32) : Option (Int32) :=
  f_Curves_areRising_34 μ h0 k kx41 x2 (0 : Int32)

def f_Curves_areRising_4 (μ : mM) (h0 : Nat) (kx41 : Int32 → Option (Int32)) : Nat → Int32 → Int32 → Option (Int32)
  | 0, _, _ => none
  | n + 1, x1, x2 =>
  (mfA μ (some h0) [3] 2).bind fun v1 =>
  (ml μ (v1)).bind fun v2 =>
  if v2 ≤ x2 then
    kx41 x1
  else
    if x1 = 0 then
      f_Curves_areRising_33 μ h0 (f_Curves_areRising_4 μ h0 kx41 n) kx41 x2
    else
      (mfA μ (some h0) [3] 2).bind fun v3 =>
      (mgA μ (v3) x2).bind fun v4 =>
      ((mrc μ (v4) 2).bind fun a => f_Curve_isRising μ a).bind fun q5 =>
      if q5 = 0 then
        f_Curves_areRising_33 μ h0 (f_Curves_areRising_4 μ h0 kx41 n) kx41 x2
      else
        f_Curves_areRising_34 μ h0 (f_Curves_areRising_4 μ h0 kx41 n) kx41 x2 (1 : Int32)

def f_Curves_areRising (μ : mM) (h0 : Nat) : Option (Int32) :=
  f_Curves_areRising_4 μ h0 (fun y1 => f_Curves_areRising_41 μ h0 y1) 4096 (1 : Int32) (0 : Int32)

-- R ColourLinker$Profile.hasWhiteOf(LColourLinker$Profile;)Z
def f_Profile_hasWhiteOf_50 (μ : mM) (h0 : Nat) (s0 : Int32) : Option (Int32) :=
  (mz s0).bind fun v13 =>
  some (v13)

def f_Profile_hasWhiteOf_49 (μ : mM) (h0 : Nat) : Option (Int32) :=
  f_Profile_hasWhiteOf_50 μ h0 (0 : Int32)

def f_Profile_hasWhiteOf (μ : mM) (h0 : Nat) (x1 : Option Nat) : Option (Int32) :=
  (mfA μ (some h0) [9] 9).bind fun v1 =>
  (mgI μ (v1) (0 : Int32)).bind fun v2 =>
  (mfA μ (x1) [9] 9).bind fun v3 =>
  (mgI μ (v3) (0 : Int32)).bind fun v4 =>
  if v2 = v4 then
    (mfA μ (some h0) [9] 9).bind fun v5 =>
    (mgI μ (v5) (1 : Int32)).bind fun v6 =>
    (mfA μ (x1) [9] 9).bind fun v7 =>
    (mgI μ (v7) (1 : Int32)).bind fun v8 =>
    if v6 = v8 then
      (mfA μ (some h0) [9] 9).bind fun v9 =>
      (mgI μ (v9) (2 : Int32)).bind fun v10 =>
      (mfA μ (x1) [9] 9).bind fun v11 =>
      (mgI μ (v11) (2 : Int32)).bind fun v12 =>
      if v10 = v12 then
        f_Profile_hasWhiteOf_50 μ h0 (1 : Int32)
      else
        f_Profile_hasWhiteOf_49 μ h0 
    else
      f_Profile_hasWhiteOf_49 μ h0 
  else
    f_Profile_hasWhiteOf_49 μ h0 

-- R ColourLinker.needsScale(LColourLinker$Profile;LColourLinker$Profile;I)Z
def f_CL_needsScale_18 (μ : mM) (s0 : Int32) : Option (Int32) :=
  (mz s0).bind fun v2 =>
  some (v2)

def f_CL_needsScale_17 (μ : mM) : Option (Int32) :=
  f_CL_needsScale_18 μ (0 : Int32)

def f_CL_needsScale (μ : mM) (x0 : Option Nat) (x1 : Option Nat) (x2 : Int32) : Option (Int32) :=
  if x2 = (3 : Int32) then
    ((mrc μ (x0) 9).bind fun a => f_Profile_hasWhiteOf μ a x1).bind fun q1 =>
    if q1 = 0 then
      f_CL_needsScale_18 μ (1 : Int32)
    else
      f_CL_needsScale_17 μ 
  else
    f_CL_needsScale_17 μ 

-- R ColourLinker$Profile.whiteHasZero()Z
def f_Profile_whiteHasZero_32 (μ : mM) (h0 : Nat) (s0 : Int32) : Option (Int32) :=
  (mz s0).bind fun v7 =>
  some (v7)

def f_Profile_whiteHasZero_27 (μ : mM) (h0 : Nat) : Option (Int32) :=
  f_Profile_whiteHasZero_32 μ h0 (1 : Int32)

def f_Profile_whiteHasZero (μ : mM) (h0 : Nat) : Option (Int32) :=
  (mfA μ (some h0) [9] 9).bind fun v1 =>
  (mgI μ (v1) (0 : Int32)).bind fun v2 =>
  if v2 = 0 then
    f_Profile_whiteHasZero_27 μ h0 
  else
    (mfA μ (some h0) [9] 9).bind fun v3 =>
    (mgI μ (v3) (1 : Int32)).bind fun v4 =>
    if v4 = 0 then
      f_Profile_whiteHasZero_27 μ h0 
    else
      (mfA μ (some h0) [9] 9).bind fun v5 =>
      (mgI μ (v5) (2 : Int32)).bind fun v6 =>
      if v6 = 0 then
        f_Profile_whiteHasZero_27 μ h0 
      else
        f_Profile_whiteHasZero_32 μ h0 (0 : Int32)

-- R ColourLinker.refusal(LColourLinker$Profile;LColourLinker$Profile;IZ)I
def f_CL_refusal_144 (μ : mM) : Option (Int32) :=
  some ((0 : Int32))

def f_CL_refusal_141 (μ : mM) : Option (Int32) :=
  some ((-7 : Int32))

def f_CL_refusal_117 (μ : mM) (x0 : Option Nat) (x1 : Option Nat) (x2 : Int32) (x3 : Int32) : Option (Int32) :=
  if x3 = 0 then
    f_CL_refusal_144 μ 
  else
    ((mrc μ (x0) 9).bind fun a => f_Profile_blackLevel μ a x2).bind fun q12 =>
    if (32768 : Int32) ≤ q12 then
      f_CL_refusal_141 μ 
    else
      ((mrc μ (x1) 9).bind fun a => f_Profile_blackLevel μ a x2).bind fun q13 =>
      if q13 < (32768 : Int32) then
        f_CL_refusal_144 μ 
      else
        f_CL_refusal_141 μ 

def f_CL_refusal_98 (μ : mM) (x0 : Option Nat) (x1 : Option Nat) (x2 : Int32) (x3 : Int32) : Option (Int32) :=
  (f_CL_needsScale μ x0 x1 x2).bind fun q10 =>
  if q10 = 0 then
    f_CL_refusal_117 μ x0 x1 x2 x3
  else
    ((mrc μ (x1) 9).bind fun a => f_Profile_whiteHasZero μ a).bind fun q11 =>
    if q11 = 0 then
      f_CL_refusal_117 μ x0 x1 x2 x3
    else
      some ((-7 : Int32))

def f_CL_refusal_64 (μ : mM) (x0 : Option Nat) (x1 : Option Nat) (x2 : Int32) (x3 : Int32) : Option (Int32) :=
  ((mrc μ (x1) 9).bind fun a => f_Profile_backPiece μ a x2 (1 : Int32)).bind fun q6 =>
  (mio μ (q6) 3 [10, 1, 6, 11, 9, 2, 5, 4, 8, 0, 7]).bind fun v7 =>
  if v7 = 0 then
    f_CL_refusal_98 μ x0 x1 x2 x3
  else
    (mcc μ (q6) 3).bind fun u8 =>
    ((mrc μ (q6) 3).bind fun a => f_Curves_areRising μ a).bind fun q9 =>
    if q9 = 0 then
      some ((-6 : Int32))
    else
      f_CL_refusal_98 μ x0 x1 x2 x3

def f_CL_refusal_9 (μ : mM) : Option (Int32) :=
  some ((-2 : Int32))

def f_CL_refusal (μ : mM) (x0 : Option Nat) (x1 : Option Nat) (x2 : Int32) (x3 : Int32) : Option (Int32) :=
  if x2 < 0 then
    f_CL_refusal_9 μ 
  else
    if x2 ≤ (3 : Int32) then
      ((mrc μ (x1) 9).bind fun a => f_Profile_isSourceAlone μ a).bind fun q1 =>
      if q1 = 0 then
        ((mrc μ (x1) 9).bind fun a => f_Profile_backPiece μ a x2 (0 : Int32)).bind fun q2 =>
        if q2 = none then
          some ((-4 : Int32))
        else
          (mio μ (q2) 8 [10, 1, 6, 11, 9, 2, 5, 3, 4, 0, 7]).bind fun v3 =>
          if v3 = 0 then
            f_CL_refusal_64 μ x0 x1 x2 x3
          else
            (mcc μ (q2) 8).bind fun u4 =>
            ((mrc μ (q2) 8).bind fun a => f_Matrix_isSingular μ a).bind fun q5 =>
            if q5 = 0 then
              f_CL_refusal_64 μ x0 x1 x2 x3
            else
              some ((-5 : Int32))
      else
        some ((-3 : Int32))
    else
      f_CL_refusal_9 μ 

-- R ColourLinker$Link.wasMadeFrom(LColourLinker$Link;LColourLinker$Profile;LColourLinker$Profile;IZ)Z
def f_Link_wasMadeFrom_47 (μ : mM) (h0 : Nat) (s0 : Int32) : Option (Int32) :=
  (mz s0).bind fun v6 =>
  some (v6)

def f_Link_wasMadeFrom_46 (μ : mM) (h0 : Nat) : Option (Int32) :=
  f_Link_wasMadeFrom_47 μ h0 (0 : Int32)

def f_Link_wasMadeFrom (μ : mM) (h0 : Nat) (x1 : Option Nat) (x2 : Option Nat) (x3 : Option Nat) (x4 : Int32) (x5 : Int32) : Option (Int32) :=
  (mfA μ (some h0) [7] 0).bind fun v1 =>
  if v1 = x1 then
    (mfA μ (some h0) [7] 1).bind fun v2 =>
    if v2 = x2 then
      (mfA μ (some h0) [7] 2).bind fun v3 =>
      if v3 = x3 then
        (mfI μ (some h0) [7] 3).bind fun v4 =>
        if v4 = x4 then
          (mfI μ (some h0) [7] 4).bind fun v5 =>
          if v5 = x5 then
            f_Link_wasMadeFrom_47 μ h0 (1 : Int32)
          else
            f_Link_wasMadeFrom_46 μ h0 
        else
          f_Link_wasMadeFrom_46 μ h0 
      else
        f_Link_wasMadeFrom_46 μ h0 
    else
      f_Link_wasMadeFrom_46 μ h0 
  else
    f_Link_wasMadeFrom_46 μ h0 

-- R ColourLinker.findMade(LColourLinker$Link;LColourLinker$Profile;LColourLinker$Profile;IZ)I
def f_CL_findMade_41 (μ : mM) (h0 : Nat) : Option (Int32) :=
  some ((-1 : Int32))

def f_CL_findMade_3 (μ : mM) (h0 : Nat) (kx41 : Unit → Option (Int32)) : Nat → (Option Nat) → (Option Nat) → (Option Nat) → Int32 → Int32 → Int32 → Option (Int32)
  | 0, _, _, _, _, _, _ => none
  | n + 1, x1, x2, x3, x4, x5, x6 =>
  (mfI μ (some h0) [10] 4).bind fun v1 =>
  if v1 ≤ x6 then
    kx41 ()
  else
    (mfA μ (some h0) [10] 3).bind fun v2 =>
    (mgA μ (v2) x6).bind fun v3 =>
    ((mrc μ (v3) 7).bind fun a => f_Link_wasMadeFrom μ a x1 x2 x3 x4 x5).bind fun q4 =>
    if q4 = 0 then
      f_CL_findMade_3 μ h0 kx41 n x1 x2 x3 x4 x5 (x6 + (1 : Int32))
    else
      some (x6)

def f_CL_findMade (μ : mM) (h0 : Nat) (x1 : Option Nat) (x2 : Option Nat) (x3 : Option Nat) (x4 : Int32) (x5 : Int32) : Option (Int32) :=
  f_CL_findMade_3 μ h0 (fun (_ : Unit) => f_CL_findMade_41 μ h0 ) 4096 x1 x2 x3 x4 x5 (0 : Int32)

-- W ColourLinker.chainPiece(LColourLinker$Piece;)V
def f_CL_chainPiece_23 (h0 : Nat) (μ : mM) : Option (mM) :=
  some (μ)

def f_CL_chainPiece (h0 : Nat) (μ : mM) (x1 : Option Nat) : Option (mM) :=
  if x1 = none then
    f_CL_chainPiece_23 h0 μ
  else
    (mfI μ (x1) [0, 3, 4, 5, 6, 8] 1).bind fun v1 =>
    if v1 = 0 then
      (mfI μ (some h0) [10] 8).bind fun v2 =>
      (mfA μ (some h0) [10] 7).bind fun v3 =>
      (ml μ (v3)).bind fun v4 =>
      if v2 < v4 then
        (mfA μ (some h0) [10] 7).bind fun v5 =>
        (mfI μ (some h0) [10] 8).bind fun v6 =>
        (msA μ (v5) v6 x1).bind fun m7 =>
        (mfI m7 (some h0) [10] 8).bind fun v8 =>
        (mpI m7 (some h0) [10] 8 (v8 + (1 : Int32))).bind fun m9 =>
        some (m9)
      else
        f_CL_chainPiece_23 h0 μ
    else
      f_CL_chainPiece_23 h0 μ

-- W ColourLinker.chainLink(LColourLinker$Link;)V
def f_CL_chainLink_32 (h0 : Nat) (μ : mM) : Option (mM) :=
  some (μ)

def f_CL_chainLink_7 (h0 : Nat) (kx32 : mM → Option (mM)) : Nat → mM → (Option Nat) → Int32 → Option (mM)
  | 0, _, _, _ => none
  | n + 1, μ, x1, x2 =>
  (mfA μ (x1) [7] 6).bind fun v1 =>
  (ml μ (v1)).bind fun v2 =>
  if v2 ≤ x2 then
    kx32 μ
  else
    (mfA μ (x1) [7] 6).bind fun v3 =>
    (mgA μ (v3) x2).bind fun v4 =>
    ((mrc μ (some h0) 10).bind fun a => f_CL_chainPiece a μ v4).bind fun q5 =>
    f_CL_chainLink_7 h0 kx32 n q5 x1 (x2 + (1 : Int32))

def f_CL_chainLink (h0 : Nat) (μ : mM) (x1 : Option Nat) : Option (mM) :=
  if x1 = none then
    some (μ)
  else
    f_CL_chainLink_7 h0 (fun μ => f_CL_chainLink_32 h0 μ) 4096 μ x1 (0 : Int32)

-- W ColourLinker$Adjust.<init>(ILColourLinker$Profile;LColourLinker$Profile;I)V
def f_Adjust_init (h0 : Nat) (μ : mM) (x1 : Int32) (x2 : Option Nat) (x3 : Option Nat) (x4 : Int32) : Option (mM) :=
  ((some h0).bind fun a => f_Piece_init a μ x1 (0 : Int32)).bind fun q1 =>
  (mpA q1 (some h0) [0] 2 x2).bind fun m2 =>
  (mpA m2 (some h0) [0] 3 x3).bind fun m3 =>
  (mpI m3 (some h0) [0] 4 x4).bind fun m4 =>
  some (m4)

-- N ColourLinker.adjustment(LColourLinker$Profile;LColourLinker$Profile;IZ)LColourLinker$Piece;
def f_CL_adjustment_52 (μ : mM) (z w : Nat) : Option ((Option Nat) × mM × Nat × Nat) :=
  some (none, μ, z, w)

def f_CL_adjustment (μ : mM) (z w : Nat) (x0 : Option Nat) (x1 : Option Nat) (x2 : Int32) (x3 : Int32) : Option ((Option Nat) × mM × Nat × Nat) :=
  mmT z w z w <|
  (f_CL_needsScale μ x0 x1 x2).bind fun q1 =>
  if q1 = 0 then
    if x3 = 0 then
      f_CL_adjustment_52 μ z w
    else
      ((mrc μ (x0) 9).bind fun a => f_Profile_blackLevel μ a x2).bind fun q2 =>
      ((mrc μ (x1) 9).bind fun a => f_Profile_blackLevel μ a x2).bind fun q3 =>
      if q2 = q3 then
        f_CL_adjustment_52 μ z w
      else
        (mnew μ z 0 [.int 0, .int 0, .null, .null, .int 0]).bind fun m4 => mmT z w (z + 1) (w + 5) <|
        ((some z).bind fun a => f_Adjust_init a m4 (8 : Int32) x0 x1 x2).bind fun q5 =>
        some (some z, q5, (z + 1), (w + 5))
  else
    (mnew μ z 0 [.int 0, .int 0, .null, .null, .int 0]).bind fun m6 => mmT z w (z + 1) (w + 5) <|
    ((some z).bind fun a => f_Adjust_init a m6 (7 : Int32) x0 x1 x2).bind fun q7 =>
    some (some z, q7, (z + 1), (w + 5))

