-- R ColourLinker$Buffer.entryFault(I)I
def f_Buffer_entryFault_102 (μ : mM) (h0 : Nat) (x2 : Int32) : Option (Int32) :=
  (f_Buffer_broken μ (4 : Int32) (x2 + (1 : Int32))).bind fun q27 =>
  some (q27)

def f_Buffer_entryFault_54 (μ : mM) (h0 : Nat) (x2 : Int32) : Option (Int32) :=
  (f_Buffer_broken μ (3 : Int32) x2).bind fun q26 =>
  some (q26)

def f_Buffer_entryFault (μ : mM) (h0 : Nat) (x1 : Int32) : Option (Int32) :=
  (mfA μ (some h0) [1] 0).bind fun v1 =>
  (mgI μ (v1) ((8 : Int32) + ((4 : Int32) * x1))).bind fun v2 =>
  (mfA μ (some h0) [1] 0).bind fun v3 =>
  (mgI μ (v3) (((8 : Int32) + ((4 : Int32) * x1)) + (1 : Int32))).bind fun v4 =>
  (mfA μ (some h0) [1] 0).bind fun v5 =>
  (mgI μ (v5) (((8 : Int32) + ((4 : Int32) * x1)) + (2 : Int32))).bind fun v6 =>
  if v2 < (1 : Int32) then
    f_Buffer_entryFault_54 μ h0 ((8 : Int32) + ((4 : Int32) * x1))
  else
    if (12 : Int32) < v2 then
      f_Buffer_entryFault_54 μ h0 ((8 : Int32) + ((4 : Int32) * x1))
    else
      ((mrc μ (some h0) 1).bind fun a => f_Buffer_hasEntry μ a v2 x1).bind fun q7 =>
      if q7 = 0 then
        if (v4 - v4 / (4 : Int32) * (4 : Int32)) = 0 then
          (mfA μ (some h0) [1] 0).bind fun v8 =>
          (mgI μ (v8) (6 : Int32)).bind fun v9 =>
          if v4 < ((8 : Int32) + ((4 : Int32) * v9)) then
            f_Buffer_entryFault_102 μ h0 ((8 : Int32) + ((4 : Int32) * x1))
          else
            if v6 < (2 : Int32) then
              f_Buffer_entryFault_102 μ h0 ((8 : Int32) + ((4 : Int32) * x1))
            else
              (mfI μ (some h0) [1] 1).bind fun v10 =>
              if (v4 + v6) ≤ v10 then
                (mfA μ (some h0) [1] 0).bind fun v11 =>
                (mgI μ (v11) (((8 : Int32) + ((4 : Int32) * x1)) + (3 : Int32))).bind fun v12 =>
                if v12 = 0 then
                  ((mrc μ (some h0) 1).bind fun a => f_Buffer_overlapsEarlier μ a x1 v4 v6).bind fun q13 =>
                  if q13 = 0 then
                    (mfA μ (some h0) [1] 0).bind fun v14 =>
                    (mgI μ (v14) v4).bind fun v15 =>
                    (f_Buffer_isTypeFor μ v2 v15).bind fun q16 =>
                    if q16 = 0 then
                      (f_Buffer_broken μ (7 : Int32) v4).bind fun q23 =>
                      some (q23)
                    else
                      (mfA μ (some h0) [1] 0).bind fun v17 =>
                      (mgI μ (v17) v4).bind fun v18 =>
                      (mfA μ (some h0) [1] 0).bind fun v19 =>
                      (mgI μ (v19) (v4 + (1 : Int32))).bind fun v20 =>
                      (f_Buffer_isLengthFor μ v18 v20 v6).bind fun q21 =>
                      if q21 = 0 then
                        (f_Buffer_broken μ (8 : Int32) (v4 + (1 : Int32))).bind fun q22 =>
                        some (q22)
                      else
                        some ((0 : Int32))
                  else
                    (f_Buffer_broken μ (6 : Int32) (((8 : Int32) + ((4 : Int32) * x1)) + (1 : Int32))).bind fun q24 =>
                    some (q24)
                else
                  (f_Buffer_broken μ (5 : Int32) (((8 : Int32) + ((4 : Int32) * x1)) + (3 : Int32))).bind fun q25 =>
                  some (q25)
              else
                f_Buffer_entryFault_102 μ h0 ((8 : Int32) + ((4 : Int32) * x1))
        else
          f_Buffer_entryFault_102 μ h0 ((8 : Int32) + ((4 : Int32) * x1))
      else
        f_Buffer_entryFault_54 μ h0 ((8 : Int32) + ((4 : Int32) * x1))

-- R ColourLinker$Buffer.hasWayForth()Z
def f_Buffer_hasWayForth_85 (μ : mM) (h0 : Nat) (s0 : Int32) : Option (Int32) :=
  (mz s0).bind fun v14 =>
  some (v14)

def f_Buffer_hasWayForth_84 (μ : mM) (h0 : Nat) : Option (Int32) :=
  f_Buffer_hasWayForth_85 μ h0 (0 : Int32)

def f_Buffer_hasWayForth_80 (μ : mM) (h0 : Nat) : Option (Int32) :=
  f_Buffer_hasWayForth_85 μ h0 (1 : Int32)

def f_Buffer_hasWayForth (μ : mM) (h0 : Nat) : Option (Int32) :=
  (mfA μ (some h0) [1] 0).bind fun v1 =>
  (mgI μ (v1) (6 : Int32)).bind fun v2 =>
  (mfA μ (some h0) [1] 0).bind fun v3 =>
  (mgI μ (v3) (3 : Int32)).bind fun v4 =>
  if v4 = (1 : Int32) then
    ((mrc μ (some h0) 1).bind fun a => f_Buffer_hasEntry μ a (1 : Int32) v2).bind fun q12 =>
    (mz q12).bind fun v13 =>
    some (v13)
  else
    ((mrc μ (some h0) 1).bind fun a => f_Buffer_hasEntry μ a (6 : Int32) v2).bind fun q5 =>
    if q5 = 0 then
      (mfA μ (some h0) [1] 0).bind fun v6 =>
      (mgI μ (v6) (4 : Int32)).bind fun v7 =>
      if v7 = 0 then
        ((mrc μ (some h0) 1).bind fun a => f_Buffer_hasEntry μ a (2 : Int32) v2).bind fun q8 =>
        if q8 = 0 then
          f_Buffer_hasWayForth_84 μ h0 
        else
          ((mrc μ (some h0) 1).bind fun a => f_Buffer_hasEntry μ a (3 : Int32) v2).bind fun q9 =>
          if q9 = 0 then
            f_Buffer_hasWayForth_84 μ h0 
          else
            ((mrc μ (some h0) 1).bind fun a => f_Buffer_hasEntry μ a (4 : Int32) v2).bind fun q10 =>
            if q10 = 0 then
              f_Buffer_hasWayForth_84 μ h0 
            else
              ((mrc μ (some h0) 1).bind fun a => f_Buffer_hasEntry μ a (5 : Int32) v2).bind fun q11 =>
              if q11 = 0 then
                f_Buffer_hasWayForth_84 μ h0 
              else
                f_Buffer_hasWayForth_80 μ h0 
      else
        f_Buffer_hasWayForth_84 μ h0 
    else
      f_Buffer_hasWayForth_80 μ h0 

-- R ColourLinker$Buffer.fault()I
def f_Buffer_fault_91 (μ : mM) (h0 : Nat) (x1 : Int32) : Option (Int32) :=
  some (x1)

def f_Buffer_fault_73 (μ : mM) (h0 : Nat) (x1 : Int32) : Option (Int32) :=
  if x1 = 0 then
    ((mrc μ (some h0) 1).bind fun a => f_Buffer_hasWayForth μ a).bind fun q11 =>
    if q11 = 0 then
      (f_Buffer_broken μ (9 : Int32) (3 : Int32)).bind fun q12 =>
      f_Buffer_fault_91 μ h0 q12
    else
      f_Buffer_fault_91 μ h0 x1
  else
    f_Buffer_fault_91 μ h0 x1

def f_Buffer_fault_46 (μ : mM) (h0 : Nat) (kx73 : Int32 → Option (Int32)) : Nat → Int32 → Int32 → Option (Int32)
  | 0, _, _ => none
  | n + 1, x1, x2 =>
  if x1 = 0 then
    (mfA μ (some h0) [1] 0).bind fun v8 =>
    (mgI μ (v8) (6 : Int32)).bind fun v9 =>
    if v9 ≤ x2 then
      kx73 x1
    else
      ((mrc μ (some h0) 1).bind fun a => f_Buffer_entryFault μ a x2).bind fun q10 =>
      f_Buffer_fault_46 μ h0 kx73 n q10 (x2 + (1 : Int32))
  else
    kx73 x1

def f_Buffer_fault_33 (μ : mM) (h0 : Nat) : Option (Int32) :=
  (f_Buffer_broken μ (1 : Int32) (0 : Int32)).bind fun q7 =>
  some (q7)

def f_Buffer_fault (μ : mM) (h0 : Nat) : Option (Int32) :=
  (mfI μ (some h0) [1] 1).bind fun v1 =>
  if v1 < (12 : Int32) then
    f_Buffer_fault_33 μ h0 
  else
    (mfI μ (some h0) [1] 1).bind fun v2 =>
    if (v2 - v2 / (4 : Int32) * (4 : Int32)) = 0 then
      (mfA μ (some h0) [1] 0).bind fun v3 =>
      (f_CL_wordAt μ v3 (0 : Int32)).bind fun q4 =>
      (mfI μ (some h0) [1] 1).bind fun v5 =>
      if q4 = v5 then
        ((mrc μ (some h0) 1).bind fun a => f_Buffer_headFault μ a).bind fun q6 =>
        f_Buffer_fault_46 μ h0 (fun y1 => f_Buffer_fault_73 μ h0 y1) 4096 q6 (0 : Int32)
      else
        f_Buffer_fault_33 μ h0 
    else
      f_Buffer_fault_33 μ h0 

-- R ColourLinker$Buffer.findData([IIII)I
def f_Buffer_findData_97 (μ : mM) (h0 : Nat) : Option (Int32) :=
  some ((0 : Int32))

def f_Buffer_findData_79 (μ : mM) (h0 : Nat) (k : (Option Nat) → Int32 → Int32 → Int32 → Int32 → Option (Int32)) (kx97 : Unit → Option (Int32)) (x1 : Option Nat) (x2 : Int32) (x3 : Int32) (x4 : Int32) (x5 : Int32) (x6 : Int32) : Option (Int32) :=
  if x6 = 0 then
    k x1 x2 x3 x4 (x5 + (4 : Int32))
  else
    (mgI μ (x1) (x5 + (1 : Int32))).bind fun v6 =>
    some (v6)

def f_Buffer_findData_71 (μ : mM) (h0 : Nat) (k : (Option Nat) → Int32 → Int32 → Int32 → Int32 → Int32 → Int32 → Option (Int32)) (kx79 : (Option Nat) → Int32 → Int32 → Int32 → Int32 → Int32 → Option (Int32)) (x1 : Option Nat) (x2 : Int32) (x3 : Int32) (x4 : Int32) (x5 : Int32) (x7 : Int32) (s0 : Int32) : Option (Int32) :=
  k x1 x2 x3 x4 x5 s0 (x7 + (1 : Int32))

def f_Buffer_findData_31 (μ : mM) (h0 : Nat) (kx79 : (Option Nat) → Int32 → Int32 → Int32 → Int32 → Int32 → Option (Int32)) : Nat → (Option Nat) → Int32 → Int32 → Int32 → Int32 → Int32 → Int32 → Option (Int32)
  | 0, _, _, _, _, _, _, _ => none
  | n + 1, x1, x2, x3, x4, x5, x6, x7 =>
  if x6 = 0 then
    kx79 x1 x2 x3 x4 x5 x6
  else
    if x4 ≤ x7 then
      kx79 x1 x2 x3 x4 x5 x6
    else
      (mgI μ (x1) (x5 + (1 : Int32))).bind fun v2 =>
      (mgI μ (x1) (v2 + x7)).bind fun v3 =>
      (mfA μ (some h0) [1] 0).bind fun v4 =>
      (mgI μ (v4) (x3 + x7)).bind fun v5 =>
      if v3 = v5 then
        f_Buffer_findData_71 μ h0 (f_Buffer_findData_31 μ h0 kx79 n) kx79 x1 x2 x3 x4 x5 x7 (1 : Int32)
      else
        f_Buffer_findData_71 μ h0 (f_Buffer_findData_31 μ h0 kx79 n) kx79 x1 x2 x3 x4 x5 x7 (0 : Int32)

def f_Buffer_findData_26 (μ : mM) (h0 : Nat) (k : (Option Nat) → Int32 → Int32 → Int32 → Int32 → Option (Int32)) (kx97 : Unit → Option (Int32)) (x1 : Option Nat) (x2 : Int32) (x3 : Int32) (x4 : Int32) (x5 : Int32) (s0 : Int32) : Option (Int32) :=
  f_Buffer_findData_31 μ h0 (fun y1 y2 y3 y4 y5 y6 => f_Buffer_findData_79 μ h0 k kx97 y1 y2 y3 y4 y5 y6) 4096 x1 x2 x3 x4 x5 s0 (0 : Int32)

def f_Buffer_findData_4 (μ : mM) (h0 : Nat) (kx97 : Unit → Option (Int32)) : Nat → (Option Nat) → Int32 → Int32 → Int32 → Int32 → Option (Int32)
  | 0, _, _, _, _, _ => none
  | n + 1, x1, x2, x3, x4, x5 =>
  if x2 ≤ x5 then
    kx97 ()
  else
    (mgI μ (x1) (x5 + (2 : Int32))).bind fun v1 =>
    if v1 = x4 then
      f_Buffer_findData_26 μ h0 (f_Buffer_findData_4 μ h0 kx97 n) kx97 x1 x2 x3 x4 x5 (1 : Int32)
    else
      f_Buffer_findData_26 μ h0 (f_Buffer_findData_4 μ h0 kx97 n) kx97 x1 x2 x3 x4 x5 (0 : Int32)

def f_Buffer_findData (μ : mM) (h0 : Nat) (x1 : Option Nat) (x2 : Int32) (x3 : Int32) (x4 : Int32) : Option (Int32) :=
  f_Buffer_findData_4 μ h0 (fun (_ : Unit) => f_Buffer_findData_97 μ h0 ) 4096 x1 x2 x3 x4 (8 : Int32)

-- N java/util/Arrays.copyOf([II)[I
def f_Arrays_copyOf (μ : mM) (z w : Nat) (x0 : Option Nat) (x1 : Int32) : Option ((Option Nat) × mM × Nat × Nat) :=
  mmT z w z w <|
  (ml μ (x0)).bind fun v1 =>
  if x1 = v1 then
    (mclone μ z w x0).bind fun q5 => mmT z w q5.2.2.1 q5.2.2.2 <|
    (mca q5.2.1 (q5.1)).bind fun u6 =>
    some (q5.1, q5.2.1, q5.2.2.1, q5.2.2.2)
  else
    (mna μ z 0 x1).bind fun m2 => mmT z w (z + 1) (w + (x1).toNatClampNeg) <|
    (ml m2 (x0)).bind fun v3 =>
    (mcopy m2 x0 (0 : Int32) (some z) (0 : Int32) (jminI v3 x1)).bind fun q4 =>
    some (some z, q4, (z + 1), (w + (x1).toNatClampNeg))

