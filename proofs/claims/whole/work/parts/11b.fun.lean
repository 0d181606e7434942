-- R ColourLinker$Buffer.isHeadByte(II)Z
def f_Buffer_isHeadByte_122 (μ : mM) (h0 : Nat) (s0 : Int32) : Option (Int32) :=
  (mz s0).bind fun v6 =>
  some (v6)

def f_Buffer_isHeadByte_112 (μ : mM) (h0 : Nat) (s0 : Int32) : Option (Int32) :=
  (mz s0).bind fun v5 =>
  some (v5)

def f_Buffer_isHeadByte_111 (μ : mM) (h0 : Nat) : Option (Int32) :=
  f_Buffer_isHeadByte_112 μ h0 (0 : Int32)

def f_Buffer_isHeadByte_82 (μ : mM) (h0 : Nat) (s0 : Int32) : Option (Int32) :=
  (mz s0).bind fun v4 =>
  some (v4)

def f_Buffer_isHeadByte_77 (μ : mM) (h0 : Nat) : Option (Int32) :=
  f_Buffer_isHeadByte_82 μ h0 (1 : Int32)

def f_Buffer_isHeadByte_67 (μ : mM) (h0 : Nat) (s0 : Int32) : Option (Int32) :=
  (mz s0).bind fun v3 =>
  some (v3)

def f_Buffer_isHeadByte_62 (μ : mM) (h0 : Nat) : Option (Int32) :=
  f_Buffer_isHeadByte_67 μ h0 (1 : Int32)

def f_Buffer_isHeadByte_51 (μ : mM) (h0 : Nat) (s0 : Int32) : Option (Int32) :=
  (mz s0).bind fun v2 =>
  some (v2)

def f_Buffer_isHeadByte_46 (μ : mM) (h0 : Nat) : Option (Int32) :=
  f_Buffer_isHeadByte_51 μ h0 (1 : Int32)

def f_Buffer_isHeadByte (μ : mM) (h0 : Nat) (x1 : Int32) (x2 : Int32) : Option (Int32) :=
  if x1 = 2 then
    if x2 = (1 : Int32) then
      f_Buffer_isHeadByte_46 μ h0 
    else
      if x2 = (2 : Int32) then
        f_Buffer_isHeadByte_46 μ h0 
      else
        f_Buffer_isHeadByte_51 μ h0 (0 : Int32)
  else
  if x1 = 3 then
    if x2 = (1 : Int32) then
      f_Buffer_isHeadByte_62 μ h0 
    else
      if x2 = (3 : Int32) then
        f_Buffer_isHeadByte_62 μ h0 
      else
        f_Buffer_isHeadByte_67 μ h0 (0 : Int32)
  else
  if x1 = 4 then
    if x2 = 0 then
      f_Buffer_isHeadByte_77 μ h0 
    else
      if x2 = (1 : Int32) then
        f_Buffer_isHeadByte_77 μ h0 
      else
        f_Buffer_isHeadByte_82 μ h0 (0 : Int32)
  else
  if x1 = 5 then
    if x2 = 0 then
      f_Buffer_isHeadByte_122 μ h0 (1 : Int32)
    else
      f_Buffer_isHeadByte_122 μ h0 (0 : Int32)
  else
  if x1 = 6 then
    if x2 < (1 : Int32) then
      f_Buffer_isHeadByte_111 μ h0 
    else
      if (12 : Int32) < x2 then
        f_Buffer_isHeadByte_111 μ h0 
      else
        (mfI μ (some h0) [1] 1).bind fun v1 =>
        if v1 < ((8 : Int32) + ((4 : Int32) * x2)) then
          f_Buffer_isHeadByte_111 μ h0 
        else
          f_Buffer_isHeadByte_112 μ h0 (1 : Int32)
  else
  if x2 = 0 then
    f_Buffer_isHeadByte_122 μ h0 (1 : Int32)
  else
    f_Buffer_isHeadByte_122 μ h0 (0 : Int32)

-- R ColourLinker$Buffer.headFault()I
def f_Buffer_headFault_34 (μ : mM) (h0 : Nat) : Option (Int32) :=
  some ((0 : Int32))

def f_Buffer_headFault_2 (μ : mM) (h0 : Nat) (kx34 : Unit → Option (Int32)) : Nat → Int32 → Option (Int32)
  | 0, _ => none
  | n + 1, x1 =>
  if (8 : Int32) ≤ x1 then
    kx34 ()
  else
    (mfA μ (some h0) [1] 0).bind fun v1 =>
    (mgI μ (v1) x1).bind fun v2 =>
    ((mrc μ (some h0) 1).bind fun a => f_Buffer_isHeadByte μ a x1 v2).bind fun q3 =>
    if q3 = 0 then
      (f_Buffer_broken μ (2 : Int32) x1).bind fun q4 =>
      some (q4)
    else
      f_Buffer_headFault_2 μ h0 kx34 n (x1 + (1 : Int32))

def f_Buffer_headFault (μ : mM) (h0 : Nat) : Option (Int32) :=
  f_Buffer_headFault_2 μ h0 (fun (_ : Unit) => f_Buffer_headFault_34 μ h0 ) 4096 (2 : Int32)

-- R ColourLinker$Buffer.hasEntry(II)Z
def f_Buffer_hasEntry_30 (μ : mM) (h0 : Nat) : Option (Int32) :=
  some ((0 : Int32))

def f_Buffer_hasEntry_2 (μ : mM) (h0 : Nat) (kx30 : Unit → Option (Int32)) : Nat → Int32 → Int32 → Int32 → Option (Int32)
  | 0, _, _, _ => none
  | n + 1, x1, x2, x3 =>
  if x2 ≤ x3 then
    kx30 ()
  else
    (mfA μ (some h0) [1] 0).bind fun v1 =>
    (mgI μ (v1) ((8 : Int32) + ((4 : Int32) * x3))).bind fun v2 =>
    if v2 = x1 then
      some ((1 : Int32))
    else
      f_Buffer_hasEntry_2 μ h0 kx30 n x1 x2 (x3 + (1 : Int32))

def f_Buffer_hasEntry (μ : mM) (h0 : Nat) (x1 : Int32) (x2 : Int32) : Option (Int32) :=
  f_Buffer_hasEntry_2 μ h0 (fun (_ : Unit) => f_Buffer_hasEntry_30 μ h0 ) 4096 x1 x2 (0 : Int32)

-- R ColourLinker$Buffer.overlapsEarlier(III)Z
def f_Buffer_overlapsEarlier_98 (μ : mM) (h0 : Nat) : Option (Int32) :=
  some ((0 : Int32))

def f_Buffer_overlapsEarlier_92 (μ : mM) (h0 : Nat) (k : Int32 → Int32 → Int32 → Int32 → Option (Int32)) (kx98 : Unit → Option (Int32)) (x1 : Int32) (x2 : Int32) (x3 : Int32) (x4 : Int32) : Option (Int32) :=
  k x1 x2 x3 (x4 + (1 : Int32))

def f_Buffer_overlapsEarlier_78 (μ : mM) (h0 : Nat) (k : Int32 → Int32 → Int32 → Int32 → Option (Int32)) (kx98 : Unit → Option (Int32)) (x1 : Int32) (x2 : Int32) (x3 : Int32) (x4 : Int32) (x7 : Int32) (s0 : Int32) : Option (Int32) :=
  if x7 = 0 then
    if s0 = 0 then
      some ((1 : Int32))
    else
      f_Buffer_overlapsEarlier_92 μ h0 k kx98 x1 x2 x3 x4
  else
    f_Buffer_overlapsEarlier_92 μ h0 k kx98 x1 x2 x3 x4

def f_Buffer_overlapsEarlier_73 (μ : mM) (h0 : Nat) (k : Int32 → Int32 → Int32 → Int32 → Option (Int32)) (kx98 : Unit → Option (Int32)) (x1 : Int32) (x2 : Int32) (x3 : Int32) (x4 : Int32) (x7 : Int32) : Option (Int32) :=
  f_Buffer_overlapsEarlier_78 μ h0 k kx98 x1 x2 x3 x4 x7 (1 : Int32)

def f_Buffer_overlapsEarlier_54 (μ : mM) (h0 : Nat) (k : Int32 → Int32 → Int32 → Int32 → Option (Int32)) (kx98 : Unit → Option (Int32)) (x1 : Int32) (x2 : Int32) (x3 : Int32) (x4 : Int32) (x5 : Int32) (x6 : Int32) (s0 : Int32) : Option (Int32) :=
  if (x5 + x6) ≤ x2 then
    f_Buffer_overlapsEarlier_73 μ h0 k kx98 x1 x2 x3 x4 s0
  else
    if x5 < (x2 + x3) then
      f_Buffer_overlapsEarlier_78 μ h0 k kx98 x1 x2 x3 x4 s0 (0 : Int32)
    else
      f_Buffer_overlapsEarlier_73 μ h0 k kx98 x1 x2 x3 x4 s0

def f_Buffer_overlapsEarlier_53 (μ : mM) (h0 : Nat) (k : Int32 → Int32 → Int32 → Int32 → Option (Int32)) (kx98 : Unit → Option (Int32)) (x1 : Int32) (x2 : Int32) (x3 : Int32) (x4 : Int32) (x5 : Int32) (x6 : Int32) : Option (Int32) :=
  f_Buffer_overlapsEarlier_54 μ h0 k kx98 x1 x2 x3 x4 x5 x6 (0 : Int32)

def f_Buffer_overlapsEarlier_3 (μ : mM) (h0 : Nat) (kx98 : Unit → Option (Int32)) : Nat → Int32 → Int32 → Int32 → Int32 → Option (Int32)
  | 0, _, _, _, _ => none
  | n + 1, x1, x2, x3, x4 =>
  if x1 ≤ x4 then
    kx98 ()
  else
    (mfA μ (some h0) [1] 0).bind fun v1 =>
    (mgI μ (v1) ((9 : Int32) + ((4 : Int32) * x4))).bind fun v2 =>
    (mfA μ (some h0) [1] 0).bind fun v3 =>
    (mgI μ (v3) ((10 : Int32) + ((4 : Int32) * x4))).bind fun v4 =>
    if v2 = x2 then
      if v4 = x3 then
        f_Buffer_overlapsEarlier_54 μ h0 (f_Buffer_overlapsEarlier_3 μ h0 kx98 n) kx98 x1 x2 x3 x4 v2 v4 (1 : Int32)
      else
        f_Buffer_overlapsEarlier_53 μ h0 (f_Buffer_overlapsEarlier_3 μ h0 kx98 n) kx98 x1 x2 x3 x4 v2 v4
    else
      f_Buffer_overlapsEarlier_53 μ h0 (f_Buffer_overlapsEarlier_3 μ h0 kx98 n) kx98 x1 x2 x3 x4 v2 v4

def f_Buffer_overlapsEarlier (μ : mM) (h0 : Nat) (x1 : Int32) (x2 : Int32) (x3 : Int32) : Option (Int32) :=
  f_Buffer_overlapsEarlier_3 μ h0 (fun (_ : Unit) => f_Buffer_overlapsEarlier_98 μ h0 ) 4096 x1 x2 x3 (0 : Int32)

-- R ColourLinker$Buffer.isTypeFor(II)Z
def f_Buffer_isTypeFor_57 (μ : mM) (s0 : Int32) : Option (Int32) :=
  (mz s0).bind fun v3 =>
  some (v3)

def f_Buffer_isTypeFor_49 (μ : mM) (s0 : Int32) (s1 : Int32) : Option (Int32) :=
  if s0 = s1 then
    f_Buffer_isTypeFor_57 μ (1 : Int32)
  else
    f_Buffer_isTypeFor_57 μ (0 : Int32)

def f_Buffer_isTypeFor_36 (μ : mM) (s0 : Int32) : Option (Int32) :=
  (mz s0).bind fun v2 =>
  some (v2)

def f_Buffer_isTypeFor_20 (μ : mM) (s0 : Int32) : Option (Int32) :=
  (mz s0).bind fun v1 =>
  some (v1)

def f_Buffer_isTypeFor_15 (μ : mM) : Option (Int32) :=
  f_Buffer_isTypeFor_20 μ (1 : Int32)

def f_Buffer_isTypeFor (μ : mM) (x0 : Int32) (x1 : Int32) : Option (Int32) :=
  if (4 : Int32) < x0 then
    if x0 = (5 : Int32) then
      if x1 = (3 : Int32) then
        f_Buffer_isTypeFor_36 μ (1 : Int32)
      else
        f_Buffer_isTypeFor_36 μ (0 : Int32)
    else
      if (11 : Int32) < x0 then
        f_Buffer_isTypeFor_49 μ x1 (5 : Int32)
      else
        f_Buffer_isTypeFor_49 μ x1 (4 : Int32)
  else
    if x1 = (1 : Int32) then
      f_Buffer_isTypeFor_15 μ 
    else
      if x1 = (2 : Int32) then
        f_Buffer_isTypeFor_15 μ 
      else
        f_Buffer_isTypeFor_20 μ (0 : Int32)

-- R ColourLinker$Buffer.isLengthFor(III)Z
def f_Buffer_isLengthFor_140 (μ : mM) (s0 : Int32) : Option (Int32) :=
  (mz s0).bind fun v5 =>
  some (v5)

def f_Buffer_isLengthFor_139 (μ : mM) : Option (Int32) :=
  f_Buffer_isLengthFor_140 μ (0 : Int32)

def f_Buffer_isLengthFor_124 (μ : mM) (s0 : Int32) : Option (Int32) :=
  (mz s0).bind fun v4 =>
  some (v4)

def f_Buffer_isLengthFor_123 (μ : mM) : Option (Int32) :=
  f_Buffer_isLengthFor_124 μ (0 : Int32)

def f_Buffer_isLengthFor_106 (μ : mM) (x1 : Int32) (x2 : Int32) : Option (Int32) :=
  if x2 = ((2 : Int32) + ((((3 : Int32) * x1) * x1) * x1)) then
    f_Buffer_isLengthFor_124 μ (1 : Int32)
  else
    f_Buffer_isLengthFor_123 μ 

def f_Buffer_isLengthFor_95 (μ : mM) (s0 : Int32) : Option (Int32) :=
  (mz s0).bind fun v3 =>
  some (v3)

def f_Buffer_isLengthFor_94 (μ : mM) : Option (Int32) :=
  f_Buffer_isLengthFor_95 μ (0 : Int32)

def f_Buffer_isLengthFor_79 (μ : mM) (s0 : Int32) : Option (Int32) :=
  (mz s0).bind fun v2 =>
  some (v2)

def f_Buffer_isLengthFor_78 (μ : mM) : Option (Int32) :=
  f_Buffer_isLengthFor_79 μ (0 : Int32)

def f_Buffer_isLengthFor_57 (μ : mM) (s0 : Int32) : Option (Int32) :=
  (mz s0).bind fun v1 =>
  some (v1)

def f_Buffer_isLengthFor_56 (μ : mM) : Option (Int32) :=
  f_Buffer_isLengthFor_57 μ (0 : Int32)

def f_Buffer_isLengthFor (μ : mM) (x0 : Int32) (x1 : Int32) (x2 : Int32) : Option (Int32) :=
  if x0 = 1 then
    if (24 : Int32) < x1 then
      f_Buffer_isLengthFor_56 μ 
    else
      if x1 = (1 : Int32) then
        f_Buffer_isLengthFor_56 μ 
      else
        if x2 = ((2 : Int32) + ((2 : Int32) * x1)) then
          f_Buffer_isLengthFor_57 μ (1 : Int32)
        else
          f_Buffer_isLengthFor_56 μ 
  else
  if x0 = 2 then
    if x1 < (1 : Int32) then
      f_Buffer_isLengthFor_78 μ 
    else
      if (4 : Int32) < x1 then
        f_Buffer_isLengthFor_78 μ 
      else
        if x2 = (6 : Int32) then
          f_Buffer_isLengthFor_79 μ (1 : Int32)
        else
          f_Buffer_isLengthFor_78 μ 
  else
  if x0 = 3 then
    if x1 = 0 then
      if x2 = (20 : Int32) then
        f_Buffer_isLengthFor_95 μ (1 : Int32)
      else
        f_Buffer_isLengthFor_94 μ 
    else
      f_Buffer_isLengthFor_94 μ 
  else
  if x0 = 4 then
    if x1 = (2 : Int32) then
      f_Buffer_isLengthFor_106 μ x1 x2
    else
      if x1 = (3 : Int32) then
        f_Buffer_isLengthFor_106 μ x1 x2
      else
        f_Buffer_isLengthFor_123 μ 
  else
  if x1 = 0 then
    if x2 = (8 : Int32) then
      f_Buffer_isLengthFor_140 μ (1 : Int32)
    else
      f_Buffer_isLengthFor_139 μ 
  else
    f_Buffer_isLengthFor_139 μ 

