-- R ColourLinkerModel.elements(I)I
def f_Mo_elements_86 (μ : mM) (h0 : Nat) (x2 : Int32) : Option (Int32) :=
  some (x2)

def f_Mo_elements_79 (μ : mM) (h0 : Nat) (k : Int32 → Int32 → Int32 → Option (Int32)) (kx86 : Int32 → Option (Int32)) (x1 : Int32) (x3 : Int32) (s0 : Int32) : Option (Int32) :=
  k x1 s0 (x3 + (4 : Int32))

def f_Mo_elements_67 (μ : mM) (h0 : Nat) (k : Int32 → Int32 → Int32 → Option (Int32)) (kx86 : Int32 → Option (Int32)) (x1 : Int32) (x2 : Int32) (x3 : Int32) (x4 : Int32) : Option (Int32) :=
  if x4 = 0 then
    f_Mo_elements_79 μ h0 k kx86 x1 x3 x2
  else
    f_Mo_elements_79 μ h0 k kx86 x1 x3 (x2 + (1 : Int32))

def f_Mo_elements_59 (μ : mM) (h0 : Nat) (k : Int32 → Int32 → Int32 → Int32 → Int32 → Option (Int32)) (kx67 : Int32 → Int32 → Int32 → Int32 → Option (Int32)) (x1 : Int32) (x2 : Int32) (x3 : Int32) (x5 : Int32) (s0 : Int32) : Option (Int32) :=
  k x1 x2 x3 s0 (x5 + (1 : Int32))

def f_Mo_elements_54 (μ : mM) (h0 : Nat) (k : Int32 → Int32 → Int32 → Int32 → Int32 → Option (Int32)) (kx67 : Int32 → Int32 → Int32 → Int32 → Option (Int32)) (x1 : Int32) (x2 : Int32) (x3 : Int32) (x5 : Int32) : Option (Int32) :=
  f_Mo_elements_59 μ h0 k kx67 x1 x2 x3 x5 (1 : Int32)

def f_Mo_elements_27 (μ : mM) (h0 : Nat) (kx67 : Int32 → Int32 → Int32 → Int32 → Option (Int32)) : Nat → Int32 → Int32 → Int32 → Int32 → Int32 → Option (Int32)
  | 0, _, _, _, _, _ => none
  | n + 1, x1, x2, x3, x4, x5 =>
  if (12 : Int32) < x5 then
    kx67 x1 x2 x3 x4
  else
    ((mrc μ (some h0) 11).bind fun a => f_Mo_data μ a x1 x5).bind fun q2 =>
    if x4 = 0 then
      if q2 = x3 then
        f_Mo_elements_54 μ h0 (f_Mo_elements_27 μ h0 kx67 n) kx67 x1 x2 x3 x5
      else
        f_Mo_elements_59 μ h0 (f_Mo_elements_27 μ h0 kx67 n) kx67 x1 x2 x3 x5 (0 : Int32)
    else
      f_Mo_elements_54 μ h0 (f_Mo_elements_27 μ h0 kx67 n) kx67 x1 x2 x3 x5

def f_Mo_elements_14 (μ : mM) (h0 : Nat) (kx86 : Int32 → Option (Int32)) : Nat → Int32 → Int32 → Int32 → Option (Int32)
  | 0, _, _, _ => none
  | n + 1, x1, x2, x3 =>
  if (256 : Int32) ≤ x3 then
    kx86 x2
  else
    f_Mo_elements_27 μ h0 (fun y1 y2 y3 y4 => f_Mo_elements_67 μ h0 (f_Mo_elements_14 μ h0 kx86 n) kx86 y1 y2 y3 y4) 4096 x1 x2 x3 (0 : Int32) (1 : Int32)

def f_Mo_elements (μ : mM) (h0 : Nat) (x1 : Int32) : Option (Int32) :=
  ((mrc μ (some h0) 11).bind fun a => f_Mo_there μ a x1).bind fun q1 =>
  if q1 = 0 then
    some ((-1 : Int32))
  else
    f_Mo_elements_14 μ h0 (fun y2 => f_Mo_elements_86 μ h0 y2) 4096 x1 (0 : Int32) (0 : Int32)

-- R ColourLinker$Profile.isLike(LColourLinker$Profile;)Z
def f_Profile_isLike_61 (μ : mM) (h0 : Nat) (x2 : Int32) : Option (Int32) :=
  (mz x2).bind fun v11 =>
  some (v11)

def f_Profile_isLike_54 (μ : mM) (h0 : Nat) (k : (Option Nat) → Int32 → Int32 → Option (Int32)) (kx61 : Int32 → Option (Int32)) (x1 : Option Nat) (x3 : Int32) (s0 : Int32) : Option (Int32) :=
  k x1 s0 (x3 + (1 : Int32))

def f_Profile_isLike_21 (μ : mM) (h0 : Nat) (kx61 : Int32 → Option (Int32)) : Nat → (Option Nat) → Int32 → Int32 → Option (Int32)
  | 0, _, _, _ => none
  | n + 1, x1, x2, x3 =>
  if x2 = 0 then
    kx61 x2
  else
    (mfA μ (some h0) [9] 0).bind fun v5 =>
    (ml μ (v5)).bind fun v6 =>
    if v6 ≤ x3 then
      kx61 x2
    else
      (mfA μ (some h0) [9] 0).bind fun v7 =>
      (mgI μ (v7) x3).bind fun v8 =>
      (mfA μ (x1) [9] 0).bind fun v9 =>
      (mgI μ (v9) x3).bind fun v10 =>
      if v8 = v10 then
        f_Profile_isLike_54 μ h0 (f_Profile_isLike_21 μ h0 kx61 n) kx61 x1 x3 (1 : Int32)
      else
        f_Profile_isLike_54 μ h0 (f_Profile_isLike_21 μ h0 kx61 n) kx61 x1 x3 (0 : Int32)

def f_Profile_isLike_18 (μ : mM) (h0 : Nat) (x1 : Option Nat) (s0 : Int32) : Option (Int32) :=
  f_Profile_isLike_21 μ h0 (fun y2 => f_Profile_isLike_61 μ h0 y2) 4096 x1 s0 (0 : Int32)

def f_Profile_isLike (μ : mM) (h0 : Nat) (x1 : Option Nat) : Option (Int32) :=
  (mfA μ (some h0) [9] 0).bind fun v1 =>
  (ml μ (v1)).bind fun v2 =>
  (mfA μ (x1) [9] 0).bind fun v3 =>
  (ml μ (v3)).bind fun v4 =>
  if v2 = v4 then
    f_Profile_isLike_18 μ h0 x1 (1 : Int32)
  else
    f_Profile_isLike_18 μ h0 x1 (0 : Int32)

-- R ColourLinker.same(II)Z
def f_CL_same_36 (μ : mM) (h0 : Nat) (s0 : Int32) : Option (Int32) :=
  (mz s0).bind fun v4 =>
  some (v4)

def f_CL_same_35 (μ : mM) (h0 : Nat) : Option (Int32) :=
  f_CL_same_36 μ h0 (0 : Int32)

def f_CL_same (μ : mM) (h0 : Nat) (x1 : Int32) (x2 : Int32) : Option (Int32) :=
  ((mrc μ (some h0) 10).bind fun a => f_CL_profileAt μ a x1).bind fun q1 =>
  ((mrc μ (some h0) 10).bind fun a => f_CL_profileAt μ a x2).bind fun q2 =>
  if q1 = none then
    f_CL_same_35 μ h0 
  else
    if q2 = none then
      f_CL_same_35 μ h0 
    else
      ((mrc μ (q1) 9).bind fun a => f_Profile_isLike μ a q2).bind fun q3 =>
      if q3 = 0 then
        f_CL_same_35 μ h0 
      else
        f_CL_same_36 μ h0 (1 : Int32)

-- R ColourLinkerModel.alike(IIII)Z
def f_Mo_alike_103 (μ : mM) (h0 : Nat) (x6 : Int32) : Option (Int32) :=
  (mz x6).bind fun v7 =>
  some (v7)

def f_Mo_alike_95 (μ : mM) (h0 : Nat) (k : Int32 → Int32 → Int32 → Int32 → Int32 → Int32 → Int32 → Option (Int32)) (kx103 : Int32 → Option (Int32)) (x1 : Int32) (x3 : Int32) (x5 : Int32) (x7 : Int32) (x8 : Int32) (x9 : Int32) (s0 : Int32) : Option (Int32) :=
  k x1 x3 x5 s0 x7 x8 (x9 + (1 : Int32))

def f_Mo_alike_55 (μ : mM) (h0 : Nat) (kx103 : Int32 → Option (Int32)) : Nat → Int32 → Int32 → Int32 → Int32 → Int32 → Int32 → Int32 → Option (Int32)
  | 0, _, _, _, _, _, _, _ => none
  | n + 1, x1, x3, x5, x6, x7, x8, x9 =>
  if x5 ≤ x9 then
    kx103 x6
  else
    if x6 = 0 then
      kx103 x6
    else
      ((mrc μ (some h0) 11).bind fun a => f_Mo_part μ a x1 (x7 + x9)).bind fun q5 =>
      ((mrc μ (some h0) 11).bind fun a => f_Mo_part μ a x3 (x8 + x9)).bind fun q6 =>
      if q5 = q6 then
        f_Mo_alike_95 μ h0 (f_Mo_alike_55 μ h0 kx103 n) kx103 x1 x3 x5 x7 x8 x9 (1 : Int32)
      else
        f_Mo_alike_95 μ h0 (f_Mo_alike_55 μ h0 kx103 n) kx103 x1 x3 x5 x7 x8 x9 (0 : Int32)

def f_Mo_alike_29 (μ : mM) (h0 : Nat) (x1 : Int32) (x2 : Int32) (x3 : Int32) (x4 : Int32) (x5 : Int32) (s0 : Int32) : Option (Int32) :=
  ((mrc μ (some h0) 11).bind fun a => f_Mo_part μ a x1 (x2 + (1 : Int32))).bind fun q3 =>
  ((mrc μ (some h0) 11).bind fun a => f_Mo_part μ a x3 (x4 + (1 : Int32))).bind fun q4 =>
  f_Mo_alike_55 μ h0 (fun y6 => f_Mo_alike_103 μ h0 y6) 4096 x1 x3 x5 s0 q3 q4 (0 : Int32)

def f_Mo_alike (μ : mM) (h0 : Nat) (x1 : Int32) (x2 : Int32) (x3 : Int32) (x4 : Int32) : Option (Int32) :=
  ((mrc μ (some h0) 11).bind fun a => f_Mo_part μ a x1 (x2 + (2 : Int32))).bind fun q1 =>
  ((mrc μ (some h0) 11).bind fun a => f_Mo_part μ a x3 (x4 + (2 : Int32))).bind fun q2 =>
  if q1 = q2 then
    f_Mo_alike_29 μ h0 x1 x2 x3 x4 q1 (1 : Int32)
  else
    f_Mo_alike_29 μ h0 x1 x2 x3 x4 q1 (0 : Int32)

-- R ColourLinkerModel.same(II)Z
def f_Mo_same_143 (μ : mM) (h0 : Nat) (x3 : Int32) : Option (Int32) :=
  (mz x3).bind fun v12 =>
  some (v12)

def f_Mo_same_136 (μ : mM) (h0 : Nat) (k : Int32 → Int32 → Int32 → Int32 → Option (Int32)) (kx143 : Int32 → Option (Int32)) (x1 : Int32) (x2 : Int32) (x4 : Int32) (s0 : Int32) : Option (Int32) :=
  k x1 x2 s0 (x4 + (1 : Int32))

def f_Mo_same_111 (μ : mM) (h0 : Nat) (k : Int32 → Int32 → Int32 → Int32 → Option (Int32)) (kx143 : Int32 → Option (Int32)) (x1 : Int32) (x2 : Int32) (x4 : Int32) (x5 : Int32) (x6 : Int32) : Option (Int32) :=
  if x5 = x6 then
    f_Mo_same_136 μ h0 k kx143 x1 x2 x4 (1 : Int32)
  else
    f_Mo_same_136 μ h0 k kx143 x1 x2 x4 (0 : Int32)

def f_Mo_same_72 (μ : mM) (h0 : Nat) (kx143 : Int32 → Option (Int32)) : Nat → Int32 → Int32 → Int32 → Int32 → Option (Int32)
  | 0, _, _, _, _ => none
  | n + 1, x1, x2, x3, x4 =>
  if (12 : Int32) < x4 then
    kx143 x3
  else
    if x3 = 0 then
      kx143 x3
    else
      ((mrc μ (some h0) 11).bind fun a => f_Mo_entry μ a x1 x4).bind fun q9 =>
      ((mrc μ (some h0) 11).bind fun a => f_Mo_entry μ a x2 x4).bind fun q10 =>
      if q9 < 0 then
        f_Mo_same_111 μ h0 (f_Mo_same_72 μ h0 kx143 n) kx143 x1 x2 x4 q9 q10
      else
        if 0 ≤ q10 then
          ((mrc μ (some h0) 11).bind fun a => f_Mo_alike μ a x1 q9 x2 q10).bind fun q11 =>
          f_Mo_same_136 μ h0 (f_Mo_same_72 μ h0 kx143 n) kx143 x1 x2 x4 q11
        else
          f_Mo_same_111 μ h0 (f_Mo_same_72 μ h0 kx143 n) kx143 x1 x2 x4 q9 q10

def f_Mo_same_68 (μ : mM) (h0 : Nat) (x1 : Int32) (x2 : Int32) (s0 : Int32) : Option (Int32) :=
  f_Mo_same_72 μ h0 (fun y3 => f_Mo_same_143 μ h0 y3) 4096 x1 x2 s0 (1 : Int32)

def f_Mo_same_67 (μ : mM) (h0 : Nat) (x1 : Int32) (x2 : Int32) : Option (Int32) :=
  f_Mo_same_68 μ h0 x1 x2 (0 : Int32)

def f_Mo_same_16 (μ : mM) (h0 : Nat) : Option (Int32) :=
  some ((0 : Int32))

def f_Mo_same (μ : mM) (h0 : Nat) (x1 : Int32) (x2 : Int32) : Option (Int32) :=
  ((mrc μ (some h0) 11).bind fun a => f_Mo_there μ a x1).bind fun q1 =>
  if q1 = 0 then
    f_Mo_same_16 μ h0 
  else
    ((mrc μ (some h0) 11).bind fun a => f_Mo_there μ a x2).bind fun q2 =>
    if q2 = 0 then
      f_Mo_same_16 μ h0 
    else
      ((mrc μ (some h0) 11).bind fun a => f_Mo_part μ a x1 (2 : Int32)).bind fun q3 =>
      ((mrc μ (some h0) 11).bind fun a => f_Mo_part μ a x2 (2 : Int32)).bind fun q4 =>
      if q3 = q4 then
        ((mrc μ (some h0) 11).bind fun a => f_Mo_part μ a x1 (3 : Int32)).bind fun q5 =>
        ((mrc μ (some h0) 11).bind fun a => f_Mo_part μ a x2 (3 : Int32)).bind fun q6 =>
        if q5 = q6 then
          ((mrc μ (some h0) 11).bind fun a => f_Mo_part μ a x1 (4 : Int32)).bind fun q7 =>
          ((mrc μ (some h0) 11).bind fun a => f_Mo_part μ a x2 (4 : Int32)).bind fun q8 =>
          if q7 = q8 then
            f_Mo_same_68 μ h0 x1 x2 (1 : Int32)
          else
            f_Mo_same_67 μ h0 x1 x2
        else
          f_Mo_same_67 μ h0 x1 x2
      else
        f_Mo_same_67 μ h0 x1 x2

-- W ColourLinker$Buffer.load([I)V
def f_Buffer_load (h0 : Nat) (μ : mM) (x1 : Option Nat) : Option (mM) :=
  (ml μ (x1)).bind fun v1 =>
  (mpI μ (some h0) [1] 1 (jminI v1 (256 : Int32))).bind fun m2 =>
  (mfA m2 (some h0) [1] 0).bind fun v3 =>
  (mfI m2 (some h0) [1] 1).bind fun v4 =>
  (mcopy m2 x1 (0 : Int32) v3 (0 : Int32) v4).bind fun q5 =>
  some (q5)

-- W ColourLinker.write(I)I
def f_CL_write (h0 : Nat) (μ : mM) (x1 : Int32) : Option (Int32 × mM) :=
  ((mrc μ (some h0) 10).bind fun a => f_CL_profileAt μ a x1).bind fun q1 =>
  if q1 = none then
    some ((-1 : Int32), μ)
  else
    (mfA μ (some h0) [10] 0).bind fun v2 =>
    (mfA μ (q1) [9] 0).bind fun v3 =>
    ((mrc μ (v2) 1).bind fun a => f_Buffer_load a μ v3).bind fun q4 =>
    (mfA q4 (some h0) [10] 0).bind fun v5 =>
    (mfI q4 (v5) [1] 1).bind fun v6 =>
    some (v6, q4)

-- R ColourLinkerModel.written(III)I
def f_Mo_written_52 (μ : mM) (h0 : Nat) : Option (Int32) :=
  some ((-1 : Int32))

def f_Mo_written_4 (μ : mM) (h0 : Nat) (kx52 : Unit → Option (Int32)) : Nat → Int32 → Int32 → Int32 → Int32 → Option (Int32)
  | 0, _, _, _, _ => none
  | n + 1, x1, x2, x3, x4 =>
  if x3 ≤ x4 then
    kx52 ()
  else
    (mfA μ (some h0) [11] 0).bind fun v1 =>
    (mgI μ (v1) x4).bind fun v2 =>
    ((mrc μ (some h0) 11).bind fun a => f_Mo_entry μ a x1 v2).bind fun q3 =>
    ((mrc μ (some h0) 11).bind fun a => f_Mo_alike μ a x1 x2 x1 q3).bind fun q4 =>
    if q4 = 0 then
      f_Mo_written_4 μ h0 kx52 n x1 x2 x3 (x4 + (4 : Int32))
    else
      (mfA μ (some h0) [11] 0).bind fun v5 =>
      (mgI μ (v5) (x4 + (1 : Int32))).bind fun v6 =>
      some (v6)

def f_Mo_written (μ : mM) (h0 : Nat) (x1 : Int32) (x2 : Int32) (x3 : Int32) : Option (Int32) :=
  f_Mo_written_4 μ h0 (fun (_ : Unit) => f_Mo_written_52 μ h0 ) 4096 x1 x2 x3 (8 : Int32)

