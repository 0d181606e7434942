-- R ColourLinkerModel.fault()I
def f_Mo_fault_297 (μ : mM) (h0 : Nat) (s0 : Int32) : Option (Int32) :=
  some (s0)

def f_Mo_fault_285 (μ : mM) (h0 : Nat) (s0 : Int32) : Option (Int32) :=
  if s0 = 0 then
    f_Mo_fault_297 μ h0 (9003 : Int32)
  else
    f_Mo_fault_297 μ h0 (0 : Int32)

def f_Mo_fault_280 (μ : mM) (h0 : Nat) : Option (Int32) :=
  f_Mo_fault_285 μ h0 (1 : Int32)

def f_Mo_fault_248 (μ : mM) (h0 : Nat) (s0 : Int32) : Option (Int32) :=
  (mfA μ (some h0) [11] 0).bind fun v32 =>
  (mgI μ (v32) (3 : Int32)).bind fun v33 =>
  if v33 = (1 : Int32) then
    ((mrc μ (some h0) 11).bind fun a => f_Mo_has μ a (1 : Int32)).bind fun q35 =>
    f_Mo_fault_285 μ h0 q35
  else
    ((mrc μ (some h0) 11).bind fun a => f_Mo_has μ a (6 : Int32)).bind fun q34 =>
    if q34 = 0 then
      if s0 = 0 then
        f_Mo_fault_285 μ h0 (0 : Int32)
      else
        f_Mo_fault_280 μ h0 
    else
      f_Mo_fault_280 μ h0 

def f_Mo_fault_247 (μ : mM) (h0 : Nat) : Option (Int32) :=
  f_Mo_fault_248 μ h0 (0 : Int32)

def f_Mo_fault_202 (μ : mM) (h0 : Nat) : Option (Int32) :=
  ((mrc μ (some h0) 11).bind fun a => f_Mo_has μ a (2 : Int32)).bind fun q26 =>
  if q26 = 0 then
    f_Mo_fault_247 μ h0 
  else
    ((mrc μ (some h0) 11).bind fun a => f_Mo_has μ a (3 : Int32)).bind fun q27 =>
    if q27 = 0 then
      f_Mo_fault_247 μ h0 
    else
      ((mrc μ (some h0) 11).bind fun a => f_Mo_has μ a (4 : Int32)).bind fun q28 =>
      if q28 = 0 then
        f_Mo_fault_247 μ h0 
      else
        ((mrc μ (some h0) 11).bind fun a => f_Mo_has μ a (5 : Int32)).bind fun q29 =>
        if q29 = 0 then
          f_Mo_fault_247 μ h0 
        else
          (mfA μ (some h0) [11] 0).bind fun v30 =>
          (mgI μ (v30) (4 : Int32)).bind fun v31 =>
          if v31 = 0 then
            f_Mo_fault_248 μ h0 (1 : Int32)
          else
            f_Mo_fault_247 μ h0 

def f_Mo_fault_173 (μ : mM) (h0 : Nat) (kx202 : Unit → Option (Int32)) : Nat → Int32 → Int32 → Option (Int32)
  | 0, _, _ => none
  | n + 1, x1, x2 =>
  if x1 ≤ x2 then
    kx202 ()
  else
    ((mrc μ (some h0) 11).bind fun a => f_Mo_entryFault μ a x2 ((8 : Int32) + ((4 : Int32) * x1))).bind fun q25 =>
    if q25 ≤ 0 then
      f_Mo_fault_173 μ h0 kx202 n x1 (x2 + (1 : Int32))
    else
      some (q25)

def f_Mo_fault_153 (μ : mM) (h0 : Nat) : Option (Int32) :=
  some ((2006 : Int32))

def f_Mo_fault_102 (μ : mM) (h0 : Nat) (x1 : Int32) : Option (Int32) :=
  (mfA μ (some h0) [11] 0).bind fun v18 =>
  (mgI μ (v18) (4 : Int32)).bind fun v19 =>
  if v19 ≤ (1 : Int32) then
    (mfA μ (some h0) [11] 0).bind fun v20 =>
    (mgI μ (v20) (5 : Int32)).bind fun v21 =>
    if v21 = 0 then
      if x1 < (1 : Int32) then
        f_Mo_fault_153 μ h0 
      else
        if (12 : Int32) < x1 then
          f_Mo_fault_153 μ h0 
        else
          (mfI μ (some h0) [11] 1).bind fun v22 =>
          if ((8 : Int32) + ((4 : Int32) * x1)) ≤ v22 then
            (mfA μ (some h0) [11] 0).bind fun v23 =>
            (mgI μ (v23) (7 : Int32)).bind fun v24 =>
            if v24 = 0 then
              f_Mo_fault_173 μ h0 (fun (_ : Unit) => f_Mo_fault_202 μ h0 ) 4096 x1 (0 : Int32)
            else
              some ((2007 : Int32))
          else
            f_Mo_fault_153 μ h0 
    else
      some ((2005 : Int32))
  else
    some ((2004 : Int32))

def f_Mo_fault_78 (μ : mM) (h0 : Nat) (x1 : Int32) : Option (Int32) :=
  (mfA μ (some h0) [11] 0).bind fun v14 =>
  (mgI μ (v14) (3 : Int32)).bind fun v15 =>
  if v15 = (1 : Int32) then
    f_Mo_fault_102 μ h0 x1
  else
    (mfA μ (some h0) [11] 0).bind fun v16 =>
    (mgI μ (v16) (3 : Int32)).bind fun v17 =>
    if v17 = (3 : Int32) then
      f_Mo_fault_102 μ h0 x1
    else
      some ((2003 : Int32))

def f_Mo_fault_42 (μ : mM) (h0 : Nat) : Option (Int32) :=
  some ((1000 : Int32))

def f_Mo_fault (μ : mM) (h0 : Nat) : Option (Int32) :=
  (mfI μ (some h0) [11] 1).bind fun v1 =>
  if v1 < (12 : Int32) then
    f_Mo_fault_42 μ h0 
  else
    (mfI μ (some h0) [11] 1).bind fun v2 =>
    if (v2 - v2 / (4 : Int32) * (4 : Int32)) = 0 then
      (mfA μ (some h0) [11] 0).bind fun v3 =>
      (mgI μ (v3) (0 : Int32)).bind fun v4 =>
      (mfA μ (some h0) [11] 0).bind fun v5 =>
      (mgI μ (v5) (1 : Int32)).bind fun v6 =>
      (mfI μ (some h0) [11] 1).bind fun v7 =>
      if (((256 : Int32) * v4) + v6) = v7 then
        (mfA μ (some h0) [11] 0).bind fun v8 =>
        (mgI μ (v8) (6 : Int32)).bind fun v9 =>
        (mfA μ (some h0) [11] 0).bind fun v10 =>
        (mgI μ (v10) (2 : Int32)).bind fun v11 =>
        if v11 = (1 : Int32) then
          f_Mo_fault_78 μ h0 v9
        else
          (mfA μ (some h0) [11] 0).bind fun v12 =>
          (mgI μ (v12) (2 : Int32)).bind fun v13 =>
          if v13 = (2 : Int32) then
            f_Mo_fault_78 μ h0 v9
          else
            some ((2002 : Int32))
      else
        f_Mo_fault_42 μ h0 
    else
      f_Mo_fault_42 μ h0 

-- W ColourLinkerModel.parse()I
def f_Mo_parse_61 (h0 : Nat) (μ : mM) : Option (Int32 × mM) :=
  (mfI μ (some h0) [11] 3).bind fun v9 =>
  (mpI μ (some h0) [11] 3 (v9 + (1 : Int32))).bind fun m10 =>
  (mfI m10 (some h0) [11] 3).bind fun v11 =>
  some ((v11 - (1 : Int32)), m10)

def f_Mo_parse_26 (h0 : Nat) (kx61 : mM → Option (Int32 × mM)) : Nat → mM → Int32 → Option (Int32 × mM)
  | 0, _, _ => none
  | n + 1, μ, x2 =>
  (mfI μ (some h0) [11] 1).bind fun v3 =>
  if v3 ≤ x2 then
    kx61 μ
  else
    (mfA μ (some h0) [11] 2).bind fun v4 =>
    (mfI μ (some h0) [11] 3).bind fun v5 =>
    (mfA μ (some h0) [11] 0).bind fun v6 =>
    (mgI μ (v6) x2).bind fun v7 =>
    (msI μ (v4) (((256 : Int32) * v5) + x2) v7).bind fun m8 =>
    f_Mo_parse_26 h0 kx61 n m8 (x2 + (1 : Int32))

def f_Mo_parse (h0 : Nat) (μ : mM) : Option (Int32 × mM) :=
  (mfI μ (some h0) [11] 3).bind fun v1 =>
  if v1 = (6 : Int32) then
    some ((-8 : Int32), μ)
  else
    ((mrc μ (some h0) 11).bind fun a => f_Mo_fault μ a).bind fun q2 =>
    if q2 ≤ 0 then
      f_Mo_parse_26 h0 (fun μ => f_Mo_parse_61 h0 μ) 4096 μ (0 : Int32)
    else
      some ((-q2), μ)

-- R ColourLinker.profiles()I
def f_CL_profiles (μ : mM) (h0 : Nat) : Option (Int32) :=
  (mfI μ (some h0) [10] 2).bind fun v1 =>
  some (v1)

-- R ColourLinkerModel.profiles()I
def f_Mo_profiles (μ : mM) (h0 : Nat) : Option (Int32) :=
  (mfI μ (some h0) [11] 3).bind fun v1 =>
  some (v1)

-- R ColourLinker.profileAt(I)LColourLinker$Profile;
def f_CL_profileAt_22 (μ : mM) (h0 : Nat) (s0 : Option Nat) : Option (Option Nat) :=
  some (s0)

def f_CL_profileAt_21 (μ : mM) (h0 : Nat) : Option (Option Nat) :=
  f_CL_profileAt_22 μ h0 none

def f_CL_profileAt (μ : mM) (h0 : Nat) (x1 : Int32) : Option (Option Nat) :=
  if x1 < 0 then
    f_CL_profileAt_21 μ h0 
  else
    (mfI μ (some h0) [10] 2).bind fun v1 =>
    if v1 ≤ x1 then
      f_CL_profileAt_21 μ h0 
    else
      (mfA μ (some h0) [10] 1).bind fun v2 =>
      (mgA μ (v2) x1).bind fun v3 =>
      f_CL_profileAt_22 μ h0 v3

-- R ColourLinker.elements(I)I
def f_CL_elements_18 (μ : mM) (h0 : Nat) (s0 : Int32) : Option (Int32) :=
  some (s0)

def f_CL_elements (μ : mM) (h0 : Nat) (x1 : Int32) : Option (Int32) :=
  ((mrc μ (some h0) 10).bind fun a => f_CL_profileAt μ a x1).bind fun q1 =>
  if q1 = none then
    f_CL_elements_18 μ h0 (-1 : Int32)
  else
    (mfI μ (q1) [9] 1).bind fun v2 =>
    f_CL_elements_18 μ h0 v2

-- R ColourLinkerModel.there(I)Z
def f_Mo_there_17 (μ : mM) (h0 : Nat) (s0 : Int32) : Option (Int32) :=
  (mz s0).bind fun v2 =>
  some (v2)

def f_Mo_there_16 (μ : mM) (h0 : Nat) : Option (Int32) :=
  f_Mo_there_17 μ h0 (0 : Int32)

def f_Mo_there (μ : mM) (h0 : Nat) (x1 : Int32) : Option (Int32) :=
  if x1 < 0 then
    f_Mo_there_16 μ h0 
  else
    (mfI μ (some h0) [11] 3).bind fun v1 =>
    if v1 ≤ x1 then
      f_Mo_there_16 μ h0 
    else
      f_Mo_there_17 μ h0 (1 : Int32)

-- R ColourLinkerModel.part(II)I
def f_Mo_part (μ : mM) (h0 : Nat) (x1 : Int32) (x2 : Int32) : Option (Int32) :=
  (mfA μ (some h0) [11] 2).bind fun v1 =>
  (mgI μ (v1) (((256 : Int32) * x1) + x2)).bind fun v2 =>
  some (v2)

-- R ColourLinkerModel.entry(II)I
def f_Mo_entry_53 (μ : mM) (h0 : Nat) : Option (Int32) :=
  some ((-1 : Int32))

def f_Mo_entry_11 (μ : mM) (h0 : Nat) (kx53 : Unit → Option (Int32)) : Nat → Int32 → Int32 → Int32 → Int32 → Option (Int32)
  | 0, _, _, _, _ => none
  | n + 1, x1, x2, x3, x4 =>
  if x3 ≤ x4 then
    kx53 ()
  else
    (mfA μ (some h0) [11] 2).bind fun v2 =>
    (mgI μ (v2) ((((256 : Int32) * x1) + (8 : Int32)) + ((4 : Int32) * x4))).bind fun v3 =>
    if v3 = x2 then
      some (((8 : Int32) + ((4 : Int32) * x4)))
    else
      f_Mo_entry_11 μ h0 kx53 n x1 x2 x3 (x4 + (1 : Int32))

def f_Mo_entry (μ : mM) (h0 : Nat) (x1 : Int32) (x2 : Int32) : Option (Int32) :=
  ((mrc μ (some h0) 11).bind fun a => f_Mo_part μ a x1 (6 : Int32)).bind fun q1 =>
  f_Mo_entry_11 μ h0 (fun (_ : Unit) => f_Mo_entry_53 μ h0 ) 4096 x1 x2 q1 (0 : Int32)

-- R ColourLinkerModel.data(II)I
def f_Mo_data_23 (μ : mM) (h0 : Nat) (s0 : Int32) : Option (Int32) :=
  some (s0)

def f_Mo_data (μ : mM) (h0 : Nat) (x1 : Int32) (x2 : Int32) : Option (Int32) :=
  ((mrc μ (some h0) 11).bind fun a => f_Mo_entry μ a x1 x2).bind fun q1 =>
  if 0 ≤ q1 then
    ((mrc μ (some h0) 11).bind fun a => f_Mo_part μ a x1 (q1 + (1 : Int32))).bind fun q2 =>
    f_Mo_data_23 μ h0 q2
  else
    f_Mo_data_23 μ h0 (-1 : Int32)

