-- R ColourLinkerModel.entryFault(II)I
def f_Mo_entryFault_530 (μ : mM) (h0 : Nat) (s0 : Int32) : Option (Int32) :=
  some (s0)

def f_Mo_entryFault_524 (μ : mM) (h0 : Nat) (x5 : Int32) : Option (Int32) :=
  f_Mo_entryFault_530 μ h0 ((8001 : Int32) + x5)

def f_Mo_entryFault_506 (μ : mM) (h0 : Nat) (x5 : Int32) (x6 : Int32) (x12 : Int32) (s0 : Int32) : Option (Int32) :=
  if x12 = 0 then
    f_Mo_entryFault_524 μ h0 x5
  else
    if x6 = s0 then
      f_Mo_entryFault_530 μ h0 (0 : Int32)
    else
      f_Mo_entryFault_524 μ h0 x5

def f_Mo_entryFault_444 (μ : mM) (h0 : Nat) (x5 : Int32) (x6 : Int32) (x9 : Int32) (x10 : Int32) (s0 : Int32) : Option (Int32) :=
  if x9 = (1 : Int32) then
    f_Mo_entryFault_506 μ h0 x5 x6 s0 ((2 : Int32) + ((2 : Int32) * x10))
  else
    if x9 = (2 : Int32) then
      f_Mo_entryFault_506 μ h0 x5 x6 s0 (6 : Int32)
    else
      if x9 = (3 : Int32) then
        f_Mo_entryFault_506 μ h0 x5 x6 s0 (20 : Int32)
      else
        if x9 = (4 : Int32) then
          f_Mo_entryFault_506 μ h0 x5 x6 s0 ((2 : Int32) + ((((3 : Int32) * x10) * x10) * x10))
        else
          f_Mo_entryFault_506 μ h0 x5 x6 s0 (8 : Int32)

def f_Mo_entryFault_426 (μ : mM) (h0 : Nat) (x5 : Int32) (x6 : Int32) (x9 : Int32) (x10 : Int32) : Option (Int32) :=
  f_Mo_entryFault_444 μ h0 x5 x6 x9 x10 (1 : Int32)

def f_Mo_entryFault_404 (μ : mM) (h0 : Nat) (x5 : Int32) (x6 : Int32) (x9 : Int32) (x10 : Int32) : Option (Int32) :=
  f_Mo_entryFault_444 μ h0 x5 x6 x9 x10 (0 : Int32)

def f_Mo_entryFault_378 (μ : mM) (h0 : Nat) (x5 : Int32) (x6 : Int32) (x9 : Int32) (x10 : Int32) : Option (Int32) :=
  f_Mo_entryFault_444 μ h0 x5 x6 x9 x10 (0 : Int32)

def f_Mo_entryFault_374 (μ : mM) (h0 : Nat) (x5 : Int32) (x6 : Int32) (x9 : Int32) (x10 : Int32) : Option (Int32) :=
  f_Mo_entryFault_444 μ h0 x5 x6 x9 x10 (1 : Int32)

def f_Mo_entryFault_336 (μ : mM) (h0 : Nat) (x5 : Int32) (x6 : Int32) (x9 : Int32) (x10 : Int32) (s0 : Int32) : Option (Int32) :=
  if s0 = 0 then
    some (((7000 : Int32) + x5))
  else
    if x9 = (1 : Int32) then
      if x10 = 0 then
        f_Mo_entryFault_374 μ h0 x5 x6 x9 x10
      else
        if x10 < (2 : Int32) then
          f_Mo_entryFault_378 μ h0 x5 x6 x9 x10
        else
          if (24 : Int32) < x10 then
            f_Mo_entryFault_378 μ h0 x5 x6 x9 x10
          else
            f_Mo_entryFault_374 μ h0 x5 x6 x9 x10
    else
      if x9 = (2 : Int32) then
        if x10 < (1 : Int32) then
          f_Mo_entryFault_404 μ h0 x5 x6 x9 x10
        else
          if (4 : Int32) < x10 then
            f_Mo_entryFault_404 μ h0 x5 x6 x9 x10
          else
            f_Mo_entryFault_444 μ h0 x5 x6 x9 x10 (1 : Int32)
      else
        if x9 = (4 : Int32) then
          if x10 = (2 : Int32) then
            f_Mo_entryFault_426 μ h0 x5 x6 x9 x10
          else
            if x10 = (3 : Int32) then
              f_Mo_entryFault_426 μ h0 x5 x6 x9 x10
            else
              f_Mo_entryFault_444 μ h0 x5 x6 x9 x10 (0 : Int32)
        else
          if x10 = 0 then
            f_Mo_entryFault_444 μ h0 x5 x6 x9 x10 (1 : Int32)
          else
            f_Mo_entryFault_444 μ h0 x5 x6 x9 x10 (0 : Int32)

def f_Mo_entryFault_276 (μ : mM) (h0 : Nat) (x5 : Int32) (x6 : Int32) (x9 : Int32) (x10 : Int32) : Option (Int32) :=
  f_Mo_entryFault_336 μ h0 x5 x6 x9 x10 (1 : Int32)

def f_Mo_entryFault_204 (μ : mM) (h0 : Nat) (x3 : Int32) : Option (Int32) :=
  some (((4001 : Int32) + x3))

def f_Mo_entryFault_167 (μ : mM) (h0 : Nat) (x3 : Int32) : Option (Int32) :=
  some (((3000 : Int32) + x3))

def f_Mo_entryFault_149 (μ : mM) (h0 : Nat) (x2 : Int32) (x3 : Int32) (x4 : Int32) (x5 : Int32) (x6 : Int32) (x7 : Int32) (x8 : Int32) : Option (Int32) :=
  if x4 < (1 : Int32) then
    f_Mo_entryFault_167 μ h0 x3
  else
    if (12 : Int32) < x4 then
      f_Mo_entryFault_167 μ h0 x3
    else
      if x7 = 0 then
        if (x5 - x5 / (4 : Int32) * (4 : Int32)) = 0 then
          if x5 < x2 then
            f_Mo_entryFault_204 μ h0 x3
          else
            if x6 < (2 : Int32) then
              f_Mo_entryFault_204 μ h0 x3
            else
              (mfI μ (some h0) [11] 1).bind fun v13 =>
              if (x5 + x6) ≤ v13 then
                (mfA μ (some h0) [11] 0).bind fun v14 =>
                (mgI μ (v14) (x3 + (3 : Int32))).bind fun v15 =>
                if v15 = 0 then
                  if x8 = 0 then
                    some (((6001 : Int32) + x3))
                  else
                    (mfA μ (some h0) [11] 0).bind fun v16 =>
                    (mgI μ (v16) x5).bind fun v17 =>
                    (mfA μ (some h0) [11] 0).bind fun v18 =>
                    (mgI μ (v18) (x5 + (1 : Int32))).bind fun v19 =>
                    if (5 : Int32) ≤ x4 then
                      if x4 = (5 : Int32) then
                        if v17 = (3 : Int32) then
                          f_Mo_entryFault_336 μ h0 x5 x6 v17 v19 (1 : Int32)
                        else
                          f_Mo_entryFault_336 μ h0 x5 x6 v17 v19 (0 : Int32)
                      else
                        if x4 = (12 : Int32) then
                          if v17 = (5 : Int32) then
                            f_Mo_entryFault_336 μ h0 x5 x6 v17 v19 (1 : Int32)
                          else
                            f_Mo_entryFault_336 μ h0 x5 x6 v17 v19 (0 : Int32)
                        else
                          if v17 = (4 : Int32) then
                            f_Mo_entryFault_336 μ h0 x5 x6 v17 v19 (1 : Int32)
                          else
                            f_Mo_entryFault_336 μ h0 x5 x6 v17 v19 (0 : Int32)
                    else
                      if v17 = (1 : Int32) then
                        f_Mo_entryFault_276 μ h0 x5 x6 v17 v19
                      else
                        if v17 = (2 : Int32) then
                          f_Mo_entryFault_276 μ h0 x5 x6 v17 v19
                        else
                          f_Mo_entryFault_336 μ h0 x5 x6 v17 v19 (0 : Int32)
                else
                  some (((5003 : Int32) + x3))
              else
                f_Mo_entryFault_204 μ h0 x3
        else
          f_Mo_entryFault_204 μ h0 x3
      else
        f_Mo_entryFault_167 μ h0 x3

def f_Mo_entryFault_141 (μ : mM) (h0 : Nat) (k : Int32 → Int32 → Int32 → Int32 → Int32 → Int32 → Int32 → Int32 → Option (Int32)) (kx149 : Int32 → Int32 → Int32 → Int32 → Int32 → Int32 → Int32 → Option (Int32)) (x2 : Int32) (x3 : Int32) (x4 : Int32) (x5 : Int32) (x6 : Int32) (x7 : Int32) (x9 : Int32) (s0 : Int32) : Option (Int32) :=
  k x2 x3 x4 x5 x6 x7 s0 (x9 + (4 : Int32))

def f_Mo_entryFault_140 (μ : mM) (h0 : Nat) (k : Int32 → Int32 → Int32 → Int32 → Int32 → Int32 → Int32 → Int32 → Option (Int32)) (kx149 : Int32 → Int32 → Int32 → Int32 → Int32 → Int32 → Int32 → Option (Int32)) (x2 : Int32) (x3 : Int32) (x4 : Int32) (x5 : Int32) (x6 : Int32) (x7 : Int32) (x9 : Int32) : Option (Int32) :=
  f_Mo_entryFault_141 μ h0 k kx149 x2 x3 x4 x5 x6 x7 x9 (0 : Int32)

def f_Mo_entryFault_136 (μ : mM) (h0 : Nat) (k : Int32 → Int32 → Int32 → Int32 → Int32 → Int32 → Int32 → Int32 → Option (Int32)) (kx149 : Int32 → Int32 → Int32 → Int32 → Int32 → Int32 → Int32 → Option (Int32)) (x2 : Int32) (x3 : Int32) (x4 : Int32) (x5 : Int32) (x6 : Int32) (x7 : Int32) (x9 : Int32) : Option (Int32) :=
  f_Mo_entryFault_141 μ h0 k kx149 x2 x3 x4 x5 x6 x7 x9 (1 : Int32)

def f_Mo_entryFault_116 (μ : mM) (h0 : Nat) (k : Int32 → Int32 → Int32 → Int32 → Int32 → Int32 → Int32 → Int32 → Option (Int32)) (kx149 : Int32 → Int32 → Int32 → Int32 → Int32 → Int32 → Int32 → Option (Int32)) (x2 : Int32) (x3 : Int32) (x4 : Int32) (x5 : Int32) (x6 : Int32) (x7 : Int32) (x9 : Int32) (x10 : Int32) (x11 : Int32) : Option (Int32) :=
  if (x10 + x11) ≤ x5 then
    f_Mo_entryFault_136 μ h0 k kx149 x2 x3 x4 x5 x6 x7 x9
  else
    if x10 < (x5 + x6) then
      f_Mo_entryFault_140 μ h0 k kx149 x2 x3 x4 x5 x6 x7 x9
    else
      f_Mo_entryFault_136 μ h0 k kx149 x2 x3 x4 x5 x6 x7 x9

def f_Mo_entryFault_95 (μ : mM) (h0 : Nat) (k : Int32 → Int32 → Int32 → Int32 → Int32 → Int32 → Int32 → Int32 → Option (Int32)) (kx149 : Int32 → Int32 → Int32 → Int32 → Int32 → Int32 → Int32 → Option (Int32)) (x2 : Int32) (x3 : Int32) (x4 : Int32) (x5 : Int32) (x6 : Int32) (x8 : Int32) (x9 : Int32) (x10 : Int32) (x11 : Int32) (s0 : Int32) : Option (Int32) :=
  if x8 = 0 then
    f_Mo_entryFault_140 μ h0 k kx149 x2 x3 x4 x5 x6 s0 x9
  else
    if x10 = x5 then
      if x11 = x6 then
        f_Mo_entryFault_136 μ h0 k kx149 x2 x3 x4 x5 x6 s0 x9
      else
        f_Mo_entryFault_116 μ h0 k kx149 x2 x3 x4 x5 x6 s0 x9 x10 x11
    else
      f_Mo_entryFault_116 μ h0 k kx149 x2 x3 x4 x5 x6 s0 x9 x10 x11

def f_Mo_entryFault_90 (μ : mM) (h0 : Nat) (k : Int32 → Int32 → Int32 → Int32 → Int32 → Int32 → Int32 → Int32 → Option (Int32)) (kx149 : Int32 → Int32 → Int32 → Int32 → Int32 → Int32 → Int32 → Option (Int32)) (x2 : Int32) (x3 : Int32) (x4 : Int32) (x5 : Int32) (x6 : Int32) (x8 : Int32) (x9 : Int32) (x10 : Int32) (x11 : Int32) : Option (Int32) :=
  f_Mo_entryFault_95 μ h0 k kx149 x2 x3 x4 x5 x6 x8 x9 x10 x11 (1 : Int32)

def f_Mo_entryFault_45 (μ : mM) (h0 : Nat) (kx149 : Int32 → Int32 → Int32 → Int32 → Int32 → Int32 → Int32 → Option (Int32)) : Nat → Int32 → Int32 → Int32 → Int32 → Int32 → Int32 → Int32 → Int32 → Option (Int32)
  | 0, _, _, _, _, _, _, _, _ => none
  | n + 1, x2, x3, x4, x5, x6, x7, x8, x9 =>
  if x3 ≤ x9 then
    kx149 x2 x3 x4 x5 x6 x7 x8
  else
    (mfA μ (some h0) [11] 0).bind fun v7 =>
    (mgI μ (v7) (x9 + (1 : Int32))).bind fun v8 =>
    (mfA μ (some h0) [11] 0).bind fun v9 =>
    (mgI μ (v9) (x9 + (2 : Int32))).bind fun v10 =>
    if x7 = 0 then
      (mfA μ (some h0) [11] 0).bind fun v11 =>
      (mgI μ (v11) x9).bind fun v12 =>
      if v12 = x4 then
        f_Mo_entryFault_90 μ h0 (f_Mo_entryFault_45 μ h0 kx149 n) kx149 x2 x3 x4 x5 x6 x8 x9 v8 v10
      else
        f_Mo_entryFault_95 μ h0 (f_Mo_entryFault_45 μ h0 kx149 n) kx149 x2 x3 x4 x5 x6 x8 x9 v8 v10 (0 : Int32)
    else
      f_Mo_entryFault_90 μ h0 (f_Mo_entryFault_45 μ h0 kx149 n) kx149 x2 x3 x4 x5 x6 x8 x9 v8 v10

def f_Mo_entryFault (μ : mM) (h0 : Nat) (x1 : Int32) (x2 : Int32) : Option (Int32) :=
  (mfA μ (some h0) [11] 0).bind fun v1 =>
  (mgI μ (v1) ((8 : Int32) + ((4 : Int32) * x1))).bind fun v2 =>
  (mfA μ (some h0) [11] 0).bind fun v3 =>
  (mgI μ (v3) (((8 : Int32) + ((4 : Int32) * x1)) + (1 : Int32))).bind fun v4 =>
  (mfA μ (some h0) [11] 0).bind fun v5 =>
  (mgI μ (v5) (((8 : Int32) + ((4 : Int32) * x1)) + (2 : Int32))).bind fun v6 =>
  f_Mo_entryFault_45 μ h0 (fun y2 y3 y4 y5 y6 y7 y8 => f_Mo_entryFault_149 μ h0 y2 y3 y4 y5 y6 y7 y8) 4096 x2 ((8 : Int32) + ((4 : Int32) * x1)) v2 v4 v6 (0 : Int32) (1 : Int32) (8 : Int32)

-- R ColourLinkerModel.has(I)Z
def f_Mo_has_46 (μ : mM) (h0 : Nat) (x2 : Int32) : Option (Int32) :=
  (mz x2).bind fun v5 =>
  some (v5)

def f_Mo_has_39 (μ : mM) (h0 : Nat) (k : Int32 → Int32 → Int32 → Option (Int32)) (kx46 : Int32 → Option (Int32)) (x1 : Int32) (x3 : Int32) (s0 : Int32) : Option (Int32) :=
  k x1 s0 (x3 + (1 : Int32))

def f_Mo_has_34 (μ : mM) (h0 : Nat) (k : Int32 → Int32 → Int32 → Option (Int32)) (kx46 : Int32 → Option (Int32)) (x1 : Int32) (x3 : Int32) : Option (Int32) :=
  f_Mo_has_39 μ h0 k kx46 x1 x3 (1 : Int32)

def f_Mo_has_4 (μ : mM) (h0 : Nat) (kx46 : Int32 → Option (Int32)) : Nat → Int32 → Int32 → Int32 → Option (Int32)
  | 0, _, _, _ => none
  | n + 1, x1, x2, x3 =>
  (mfA μ (some h0) [11] 0).bind fun v1 =>
  (mgI μ (v1) (6 : Int32)).bind fun v2 =>
  if v2 ≤ x3 then
    kx46 x2
  else
    if x2 = 0 then
      (mfA μ (some h0) [11] 0).bind fun v3 =>
      (mgI μ (v3) ((8 : Int32) + ((4 : Int32) * x3))).bind fun v4 =>
      if v4 = x1 then
        f_Mo_has_34 μ h0 (f_Mo_has_4 μ h0 kx46 n) kx46 x1 x3
      else
        f_Mo_has_39 μ h0 (f_Mo_has_4 μ h0 kx46 n) kx46 x1 x3 (0 : Int32)
    else
      f_Mo_has_34 μ h0 (f_Mo_has_4 μ h0 kx46 n) kx46 x1 x3

def f_Mo_has (μ : mM) (h0 : Nat) (x1 : Int32) : Option (Int32) :=
  f_Mo_has_4 μ h0 (fun y2 => f_Mo_has_46 μ h0 y2) 4096 x1 (0 : Int32) (0 : Int32)

