section WK
variable {p : Program} {l : Launch} {e : Env} {s : State} {m : MethodId} {args : Array Value} {below : List Frame} {meth : Method} {c : Code} {D : va_G} {cA : Nat → ClassId} {dA z0 : Nat}
abbrev rm_Mo_entryFault : Room := { frames := 0, cells := 0, slots := 0, locals := 0 }
theorem h_Mo_entryFault : mCV y_Mo_entryFault b_Mo_entryFault 14 (some .int) 2 := ⟨k_930, k_79, ⟨by decide, by decide, by decide +kernel⟩, k_929, k_28⟩
set_option maxHeartbeats 4000000 in
set_option maxRecDepth 100000 in
theorem w_Mo_entryFault_530 {μ : mM} {h0 : Nat} {r : Int32} (X : mX p m meth c s args b_Mo_entryFault 14 (some .int) "ColourLinkerModel") (G : mG D cA dA z0 s) (I : mI D cA z0 s μ s.heap [] s.heap.size) {ls : Array Slot} {s0 : Int32} (hf : f_Mo_entryFault_530 μ h0 s0 = some r) (hl : lv_has ls 14 [(0, va_rf (some h0))]) : W p l e rm_Mo_entryFault s m args below meth c s.heap [] 0 0 (MQ below (mQR (some (.int r))) args s 0 0 (fun _ => False)) (F0 m 530 ls [.int s0]) := by
  have hx := X.ex
  have hb := X.by_
  unfold f_Mo_entryFault_530 at hf
  obtain rfl := Option.some.inj hf
  exact r_iretR X d_Mo_entryFault_530

set_option maxHeartbeats 4000000 in
set_option maxRecDepth 100000 in
theorem w_Mo_entryFault_524 {μ : mM} {h0 : Nat} {r : Int32} (X : mX p m meth c s args b_Mo_entryFault 14 (some .int) "ColourLinkerModel") (G : mG D cA dA z0 s) (I : mI D cA z0 s μ s.heap [] s.heap.size) {ls : Array Slot} {x5 : Int32} (hf : f_Mo_entryFault_524 μ h0 x5 = some r) (hl : lv_has ls 14 [(0, va_rf (some h0)), (5, .int x5)]) : W p l e rm_Mo_entryFault s m args below meth c s.heap [] 0 0 (MQ below (mQR (some (.int r))) args s 0 0 (fun _ => False)) (F0 m 524 ls []) := by
  have hx := X.ex
  have hb := X.by_
  unfold f_Mo_entryFault_524 at hf
  refine lv_sipush (v := 8001) hx hb d_Mo_entryFault_524 (by decide) ?_
  refine lv_iload hx hb d_Mo_entryFault_527 (lv_at hl 1 rfl) ?_
  refine lv_iadd hx hb d_Mo_entryFault_529 ?_
  exact w_Mo_entryFault_530 X G I hf (lv_sub hl [0] rfl)

set_option maxHeartbeats 4000000 in
set_option maxRecDepth 100000 in
theorem w_Mo_entryFault_506 {μ : mM} {h0 : Nat} {r : Int32} (X : mX p m meth c s args b_Mo_entryFault 14 (some .int) "ColourLinkerModel") (G : mG D cA dA z0 s) (I : mI D cA z0 s μ s.heap [] s.heap.size) {ls : Array Slot} {x5 : Int32} {x6 : Int32} {x12 : Int32} {s0 : Int32} (hf : f_Mo_entryFault_506 μ h0 x5 x6 x12 s0 = some r) (hl : lv_has ls 14 [(0, va_rf (some h0)), (5, .int x5), (6, .int x6), (12, .int x12)]) : W p l e rm_Mo_entryFault s m args below meth c s.heap [] 0 0 (MQ below (mQR (some (.int r))) args s 0 0 (fun _ => False)) (F0 m 506 ls [.int s0]) := by
  have hx := X.ex
  have hb := X.by_
  unfold f_Mo_entryFault_506 at hf
  refine lv_istore (i := 13) (lv' := [(13, .int s0), (0, va_rf (some h0)), (5, .int x5), (6, .int x6), (12, .int x12)]) hx hb d_Mo_entryFault_506 hl (by decide) rfl (fun ls hl => ?_)
  refine lv_iload hx hb d_Mo_entryFault_508 (lv_at hl 4 rfl) ?_
  refine lv_if_eq (tgt := 524) hx hb d_Mo_entryFault_510 (by decide) (fun hc => ?_) (fun hc => ?_)
  · have hf := mift hf hc
    exact w_Mo_entryFault_524 X G I hf (lv_sub hl [1, 2] rfl)
  · have hf := miff hf hc
    refine lv_iload hx hb d_Mo_entryFault_513 (lv_at hl 3 rfl) ?_
    refine lv_iload hx hb d_Mo_entryFault_515 (lv_at hl 0 rfl) ?_
    refine lv_icmp_ne (tgt := 524) hx hb d_Mo_entryFault_517 (by decide) (fun hc => ?_) (fun hc => ?_)
    · have hf := miff hf hc
      exact w_Mo_entryFault_524 X G I hf (lv_sub hl [1, 2] rfl)
    · have hf := mift hf hc
      refine lv_iconst (v := 0) hx hb d_Mo_entryFault_520 (by decide) ?_
      refine lv_goto (tgt := 530) hx hb d_Mo_entryFault_521 (by decide) ?_
      exact w_Mo_entryFault_530 X G I hf (lv_sub hl [1] rfl)

set_option maxHeartbeats 4000000 in
set_option maxRecDepth 100000 in
theorem w_Mo_entryFault_444 {μ : mM} {h0 : Nat} {r : Int32} (X : mX p m meth c s args b_Mo_entryFault 14 (some .int) "ColourLinkerModel") (G : mG D cA dA z0 s) (I : mI D cA z0 s μ s.heap [] s.heap.size) {ls : Array Slot} {x5 : Int32} {x6 : Int32} {x9 : Int32} {x10 : Int32} {s0 : Int32} (hf : f_Mo_entryFault_444 μ h0 x5 x6 x9 x10 s0 = some r) (hl : lv_has ls 14 [(0, va_rf (some h0)), (5, .int x5), (6, .int x6), (9, .int x9), (10, .int x10)]) : W p l e rm_Mo_entryFault s m args below meth c s.heap [] 0 0 (MQ below (mQR (some (.int r))) args s 0 0 (fun _ => False)) (F0 m 444 ls [.int s0]) := by
  have hx := X.ex
  have hb := X.by_
  unfold f_Mo_entryFault_444 at hf
  refine lv_istore (i := 12) (lv' := [(12, .int s0), (0, va_rf (some h0)), (5, .int x5), (6, .int x6), (9, .int x9), (10, .int x10)]) hx hb d_Mo_entryFault_444 hl (by decide) rfl (fun ls hl => ?_)
  refine lv_iload hx hb d_Mo_entryFault_446 (lv_at hl 4 rfl) ?_
  refine lv_iconst (v := 1) hx hb d_Mo_entryFault_448 (by decide) ?_
  refine lv_icmp_ne (tgt := 461) hx hb d_Mo_entryFault_449 (by decide) (fun hc => ?_) (fun hc => ?_)
  · have hf := miff hf hc
    refine lv_iload hx hb d_Mo_entryFault_461 (lv_at hl 4 rfl) ?_
    refine lv_iconst (v := 2) hx hb d_Mo_entryFault_463 (by decide) ?_
    refine lv_icmp_ne (tgt := 472) hx hb d_Mo_entryFault_464 (by decide) (fun hc => ?_) (fun hc => ?_)
    · have hf := miff hf hc
      refine lv_iload hx hb d_Mo_entryFault_472 (lv_at hl 4 rfl) ?_
      refine lv_iconst (v := 3) hx hb d_Mo_entryFault_474 (by decide) ?_
      refine lv_icmp_ne (tgt := 483) hx hb d_Mo_entryFault_475 (by decide) (fun hc => ?_) (fun hc => ?_)
      · have hf := miff hf hc
        refine lv_iload hx hb d_Mo_entryFault_483 (lv_at hl 4 rfl) ?_
        refine lv_iconst (v := 4) hx hb d_Mo_entryFault_485 (by decide) ?_
        refine lv_icmp_ne (tgt := 504) hx hb d_Mo_entryFault_486 (by decide) (fun hc => ?_) (fun hc => ?_)
        · have hf := miff hf hc
          refine lv_bipush (v := 8) hx hb d_Mo_entryFault_504 (by decide) ?_
          exact w_Mo_entryFault_506 X G I hf (lv_sub hl [1, 2, 3, 0] rfl)
        · have hf := mift hf hc
          refine lv_iconst (v := 2) hx hb d_Mo_entryFault_489 (by decide) ?_
          refine lv_iconst (v := 3) hx hb d_Mo_entryFault_490 (by decide) ?_
          refine lv_iload hx hb d_Mo_entryFault_491 (lv_at hl 5 rfl) ?_
          refine lv_imul hx hb d_Mo_entryFault_493 ?_
          refine lv_iload hx hb d_Mo_entryFault_494 (lv_at hl 5 rfl) ?_
          refine lv_imul hx hb d_Mo_entryFault_496 ?_
          refine lv_iload hx hb d_Mo_entryFault_497 (lv_at hl 5 rfl) ?_
          refine lv_imul hx hb d_Mo_entryFault_499 ?_
          refine lv_iadd hx hb d_Mo_entryFault_500 ?_
          refine lv_goto (tgt := 506) hx hb d_Mo_entryFault_501 (by decide) ?_
          exact w_Mo_entryFault_506 X G I hf (lv_sub hl [1, 2, 3, 0] rfl)
      · have hf := mift hf hc
        refine lv_bipush (v := 20) hx hb d_Mo_entryFault_478 (by decide) ?_
        refine lv_goto (tgt := 506) hx hb d_Mo_entryFault_480 (by decide) ?_
        exact w_Mo_entryFault_506 X G I hf (lv_sub hl [1, 2, 3, 0] rfl)
    · have hf := mift hf hc
      refine lv_bipush (v := 6) hx hb d_Mo_entryFault_467 (by decide) ?_
      refine lv_goto (tgt := 506) hx hb d_Mo_entryFault_469 (by decide) ?_
      exact w_Mo_entryFault_506 X G I hf (lv_sub hl [1, 2, 3, 0] rfl)
  · have hf := mift hf hc
    refine lv_iconst (v := 2) hx hb d_Mo_entryFault_452 (by decide) ?_
    refine lv_iconst (v := 2) hx hb d_Mo_entryFault_453 (by decide) ?_
    refine lv_iload hx hb d_Mo_entryFault_454 (lv_at hl 5 rfl) ?_
    refine lv_imul hx hb d_Mo_entryFault_456 ?_
    refine lv_iadd hx hb d_Mo_entryFault_457 ?_
    refine lv_goto (tgt := 506) hx hb d_Mo_entryFault_458 (by decide) ?_
    exact w_Mo_entryFault_506 X G I hf (lv_sub hl [1, 2, 3, 0] rfl)

set_option maxHeartbeats 4000000 in
set_option maxRecDepth 100000 in
theorem w_Mo_entryFault_426 {μ : mM} {h0 : Nat} {r : Int32} (X : mX p m meth c s args b_Mo_entryFault 14 (some .int) "ColourLinkerModel") (G : mG D cA dA z0 s) (I : mI D cA z0 s μ s.heap [] s.heap.size) {ls : Array Slot} {x5 : Int32} {x6 : Int32} {x9 : Int32} {x10 : Int32} (hf : f_Mo_entryFault_426 μ h0 x5 x6 x9 x10 = some r) (hl : lv_has ls 14 [(0, va_rf (some h0)), (5, .int x5), (6, .int x6), (9, .int x9), (10, .int x10)]) : W p l e rm_Mo_entryFault s m args below meth c s.heap [] 0 0 (MQ below (mQR (some (.int r))) args s 0 0 (fun _ => False)) (F0 m 426 ls []) := by
  have hx := X.ex
  have hb := X.by_
  unfold f_Mo_entryFault_426 at hf
  refine lv_iconst (v := 1) hx hb d_Mo_entryFault_426 (by decide) ?_
  refine lv_goto (tgt := 444) hx hb d_Mo_entryFault_427 (by decide) ?_
  exact w_Mo_entryFault_444 X G I hf hl

set_option maxHeartbeats 4000000 in
set_option maxRecDepth 100000 in
theorem w_Mo_entryFault_404 {μ : mM} {h0 : Nat} {r : Int32} (X : mX p m meth c s args b_Mo_entryFault 14 (some .int) "ColourLinkerModel") (G : mG D cA dA z0 s) (I : mI D cA z0 s μ s.heap [] s.heap.size) {ls : Array Slot} {x5 : Int32} {x6 : Int32} {x9 : Int32} {x10 : Int32} (hf : f_Mo_entryFault_404 μ h0 x5 x6 x9 x10 = some r) (hl : lv_has ls 14 [(0, va_rf (some h0)), (5, .int x5), (6, .int x6), (9, .int x9), (10, .int x10)]) : W p l e rm_Mo_entryFault s m args below meth c s.heap [] 0 0 (MQ below (mQR (some (.int r))) args s 0 0 (fun _ => False)) (F0 m 404 ls []) := by
  have hx := X.ex
  have hb := X.by_
  unfold f_Mo_entryFault_404 at hf
  refine lv_iconst (v := 0) hx hb d_Mo_entryFault_404 (by decide) ?_
  refine lv_goto (tgt := 444) hx hb d_Mo_entryFault_405 (by decide) ?_
  exact w_Mo_entryFault_444 X G I hf hl

set_option maxHeartbeats 4000000 in
set_option maxRecDepth 100000 in
theorem w_Mo_entryFault_378 {μ : mM} {h0 : Nat} {r : Int32} (X : mX p m meth c s args b_Mo_entryFault 14 (some .int) "ColourLinkerModel") (G : mG D cA dA z0 s) (I : mI D cA z0 s μ s.heap [] s.heap.size) {ls : Array Slot} {x5 : Int32} {x6 : Int32} {x9 : Int32} {x10 : Int32} (hf : f_Mo_entryFault_378 μ h0 x5 x6 x9 x10 = some r) (hl : lv_has ls 14 [(0, va_rf (some h0)), (5, .int x5), (6, .int x6), (9, .int x9), (10, .int x10)]) : W p l e rm_Mo_entryFault s m args below meth c s.heap [] 0 0 (MQ below (mQR (some (.int r))) args s 0 0 (fun _ => False)) (F0 m 378 ls []) := by
  have hx := X.ex
  have hb := X.by_
  unfold f_Mo_entryFault_378 at hf
  refine lv_iconst (v := 0) hx hb d_Mo_entryFault_378 (by decide) ?_
  refine lv_goto (tgt := 444) hx hb d_Mo_entryFault_379 (by decide) ?_
  exact w_Mo_entryFault_444 X G I hf hl

set_option maxHeartbeats 4000000 in
set_option maxRecDepth 100000 in
theorem w_Mo_entryFault_374 {μ : mM} {h0 : Nat} {r : Int32} (X : mX p m meth c s args b_Mo_entryFault 14 (some .int) "ColourLinkerModel") (G : mG D cA dA z0 s) (I : mI D cA z0 s μ s.heap [] s.heap.size) {ls : Array Slot} {x5 : Int32} {x6 : Int32} {x9 : Int32} {x10 : Int32} (hf : f_Mo_entryFault_374 μ h0 x5 x6 x9 x10 = some r) (hl : lv_has ls 14 [(0, va_rf (some h0)), (5, .int x5), (6, .int x6), (9, .int x9), (10, .int x10)]) : W p l e rm_Mo_entryFault s m args below meth c s.heap [] 0 0 (MQ below (mQR (some (.int r))) args s 0 0 (fun _ => False)) (F0 m 374 ls []) := by
  have hx := X.ex
  have hb := X.by_
  unfold f_Mo_entryFault_374 at hf
  refine lv_iconst (v := 1) hx hb d_Mo_entryFault_374 (by decide) ?_
  refine lv_goto (tgt := 444) hx hb d_Mo_entryFault_375 (by decide) ?_
  exact w_Mo_entryFault_444 X G I hf hl

set_option maxHeartbeats 4000000 in
set_option maxRecDepth 100000 in
theorem w_Mo_entryFault_336 {μ : mM} {h0 : Nat} {r : Int32} (X : mX p m meth c s args b_Mo_entryFault 14 (some .int) "ColourLinkerModel") (G : mG D cA dA z0 s) (I : mI D cA z0 s μ s.heap [] s.heap.size) {ls : Array Slot} {x5 : Int32} {x6 : Int32} {x9 : Int32} {x10 : Int32} {s0 : Int32} (hf : f_Mo_entryFault_336 μ h0 x5 x6 x9 x10 s0 = some r) (hl : lv_has ls 14 [(0, va_rf (some h0)), (5, .int x5), (6, .int x6), (9, .int x9), (10, .int x10)]) : W p l e rm_Mo_entryFault s m args below meth c s.heap [] 0 0 (MQ below (mQR (some (.int r))) args s 0 0 (fun _ => False)) (F0 m 336 ls [.int s0]) := by
  have hx := X.ex
  have hb := X.by_
  unfold f_Mo_entryFault_336 at hf
  refine lv_istore (i := 11) (lv' := [(11, .int s0), (0, va_rf (some h0)), (5, .int x5), (6, .int x6), (9, .int x9), (10, .int x10)]) hx hb d_Mo_entryFault_336 hl (by decide) rfl (fun ls hl => ?_)
  refine lv_iload hx hb d_Mo_entryFault_338 (lv_at hl 0 rfl) ?_
  refine lv_if_ne (tgt := 350) hx hb d_Mo_entryFault_340 (by decide) (fun hc => ?_) (fun hc => ?_)
  · have hf := miff hf hc
    refine lv_iload hx hb d_Mo_entryFault_350 (lv_at hl 4 rfl) ?_
    refine lv_iconst (v := 1) hx hb d_Mo_entryFault_352 (by decide) ?_
    refine lv_icmp_ne (tgt := 382) hx hb d_Mo_entryFault_353 (by decide) (fun hc => ?_) (fun hc => ?_)
    · have hf := miff hf hc
      refine lv_iload hx hb d_Mo_entryFault_382 (lv_at hl 4 rfl) ?_
      refine lv_iconst (v := 2) hx hb d_Mo_entryFault_384 (by decide) ?_
      refine lv_icmp_ne (tgt := 408) hx hb d_Mo_entryFault_385 (by decide) (fun hc => ?_) (fun hc => ?_)
      · have hf := miff hf hc
        refine lv_iload hx hb d_Mo_entryFault_408 (lv_at hl 4 rfl) ?_
        refine lv_iconst (v := 4) hx hb d_Mo_entryFault_410 (by decide) ?_
        refine lv_icmp_ne (tgt := 434) hx hb d_Mo_entryFault_411 (by decide) (fun hc => ?_) (fun hc => ?_)
        · have hf := miff hf hc
          refine lv_iload hx hb d_Mo_entryFault_434 (lv_at hl 5 rfl) ?_
          refine lv_if_ne (tgt := 443) hx hb d_Mo_entryFault_436 (by decide) (fun hc => ?_) (fun hc => ?_)
          · have hf := miff hf hc
            refine lv_iconst (v := 0) hx hb d_Mo_entryFault_443 (by decide) ?_
            exact w_Mo_entryFault_444 X G I hf (lv_sub hl [1, 2, 3, 4, 5] rfl)
          · have hf := mift hf hc
            refine lv_iconst (v := 1) hx hb d_Mo_entryFault_439 (by decide) ?_
            refine lv_goto (tgt := 444) hx hb d_Mo_entryFault_440 (by decide) ?_
            exact w_Mo_entryFault_444 X G I hf (lv_sub hl [1, 2, 3, 4, 5] rfl)
        · have hf := mift hf hc
          refine lv_iload hx hb d_Mo_entryFault_414 (lv_at hl 5 rfl) ?_
          refine lv_iconst (v := 2) hx hb d_Mo_entryFault_416 (by decide) ?_
          refine lv_icmp_eq (tgt := 426) hx hb d_Mo_entryFault_417 (by decide) (fun hc => ?_) (fun hc => ?_)
          · have hf := mift hf hc
            exact w_Mo_entryFault_426 X G I hf (lv_sub hl [1, 2, 3, 4, 5] rfl)
          · have hf := miff hf hc
            refine lv_iload hx hb d_Mo_entryFault_420 (lv_at hl 5 rfl) ?_
            refine lv_iconst (v := 3) hx hb d_Mo_entryFault_422 (by decide) ?_
            refine lv_icmp_ne (tgt := 430) hx hb d_Mo_entryFault_423 (by decide) (fun hc => ?_) (fun hc => ?_)
            · have hf := miff hf hc
              refine lv_iconst (v := 0) hx hb d_Mo_entryFault_430 (by decide) ?_
              refine lv_goto (tgt := 444) hx hb d_Mo_entryFault_431 (by decide) ?_
              exact w_Mo_entryFault_444 X G I hf (lv_sub hl [1, 2, 3, 4, 5] rfl)
            · have hf := mift hf hc
              exact w_Mo_entryFault_426 X G I hf (lv_sub hl [1, 2, 3, 4, 5] rfl)
      · have hf := mift hf hc
        refine lv_iload hx hb d_Mo_entryFault_388 (lv_at hl 5 rfl) ?_
        refine lv_iconst (v := 1) hx hb d_Mo_entryFault_390 (by decide) ?_
        refine lv_icmp_lt (tgt := 404) hx hb d_Mo_entryFault_391 (by decide) (fun hc => ?_) (fun hc => ?_)
        · have hf := mift hf hc
          exact w_Mo_entryFault_404 X G I hf (lv_sub hl [1, 2, 3, 4, 5] rfl)
        · have hf := miff hf hc
          refine lv_iload hx hb d_Mo_entryFault_394 (lv_at hl 5 rfl) ?_
          refine lv_iconst (v := 4) hx hb d_Mo_entryFault_396 (by decide) ?_
          refine lv_icmp_gt (tgt := 404) hx hb d_Mo_entryFault_397 (by decide) (fun hc => ?_) (fun hc => ?_)
          · have hf := mift hf hc
            exact w_Mo_entryFault_404 X G I hf (lv_sub hl [1, 2, 3, 4, 5] rfl)
          · have hf := miff hf hc
            refine lv_iconst (v := 1) hx hb d_Mo_entryFault_400 (by decide) ?_
            refine lv_goto (tgt := 444) hx hb d_Mo_entryFault_401 (by decide) ?_
            exact w_Mo_entryFault_444 X G I hf (lv_sub hl [1, 2, 3, 4, 5] rfl)
    · have hf := mift hf hc
      refine lv_iload hx hb d_Mo_entryFault_356 (lv_at hl 5 rfl) ?_
      refine lv_if_eq (tgt := 374) hx hb d_Mo_entryFault_358 (by decide) (fun hc => ?_) (fun hc => ?_)
      · have hf := mift hf hc
        exact w_Mo_entryFault_374 X G I hf (lv_sub hl [1, 2, 3, 4, 5] rfl)
      · have hf := miff hf hc
        refine lv_iload hx hb d_Mo_entryFault_361 (lv_at hl 5 rfl) ?_
        refine lv_iconst (v := 2) hx hb d_Mo_entryFault_363 (by decide) ?_
        refine lv_icmp_lt (tgt := 378) hx hb d_Mo_entryFault_364 (by decide) (fun hc => ?_) (fun hc => ?_)
        · have hf := mift hf hc
          exact w_Mo_entryFault_378 X G I hf (lv_sub hl [1, 2, 3, 4, 5] rfl)
        · have hf := miff hf hc
          refine lv_iload hx hb d_Mo_entryFault_367 (lv_at hl 5 rfl) ?_
          refine lv_bipush (v := 24) hx hb d_Mo_entryFault_369 (by decide) ?_
          refine lv_icmp_gt (tgt := 378) hx hb d_Mo_entryFault_371 (by decide) (fun hc => ?_) (fun hc => ?_)
          · have hf := mift hf hc
            exact w_Mo_entryFault_378 X G I hf (lv_sub hl [1, 2, 3, 4, 5] rfl)
          · have hf := miff hf hc
            exact w_Mo_entryFault_374 X G I hf (lv_sub hl [1, 2, 3, 4, 5] rfl)
  · have hf := mift hf hc
    refine lv_sipush (v := 7000) hx hb d_Mo_entryFault_343 (by decide) ?_
    refine lv_iload hx hb d_Mo_entryFault_346 (lv_at hl 2 rfl) ?_
    refine lv_iadd hx hb d_Mo_entryFault_348 ?_
    obtain rfl := Option.some.inj hf
    exact r_iretR X d_Mo_entryFault_349

set_option maxHeartbeats 4000000 in
set_option maxRecDepth 100000 in
theorem w_Mo_entryFault_276 {μ : mM} {h0 : Nat} {r : Int32} (X : mX p m meth c s args b_Mo_entryFault 14 (some .int) "ColourLinkerModel") (G : mG D cA dA z0 s) (I : mI D cA z0 s μ s.heap [] s.heap.size) {ls : Array Slot} {x5 : Int32} {x6 : Int32} {x9 : Int32} {x10 : Int32} (hf : f_Mo_entryFault_276 μ h0 x5 x6 x9 x10 = some r) (hl : lv_has ls 14 [(0, va_rf (some h0)), (5, .int x5), (6, .int x6), (9, .int x9), (10, .int x10)]) : W p l e rm_Mo_entryFault s m args below meth c s.heap [] 0 0 (MQ below (mQR (some (.int r))) args s 0 0 (fun _ => False)) (F0 m 276 ls []) := by
  have hx := X.ex
  have hb := X.by_
  unfold f_Mo_entryFault_276 at hf
  refine lv_iconst (v := 1) hx hb d_Mo_entryFault_276 (by decide) ?_
  refine lv_goto (tgt := 336) hx hb d_Mo_entryFault_277 (by decide) ?_
  exact w_Mo_entryFault_336 X G I hf hl

set_option maxHeartbeats 4000000 in
set_option maxRecDepth 100000 in
theorem w_Mo_entryFault_204 {μ : mM} {h0 : Nat} {r : Int32} (X : mX p m meth c s args b_Mo_entryFault 14 (some .int) "ColourLinkerModel") (G : mG D cA dA z0 s) (I : mI D cA z0 s μ s.heap [] s.heap.size) {ls : Array Slot} {x3 : Int32} (hf : f_Mo_entryFault_204 μ h0 x3 = some r) (hl : lv_has ls 14 [(0, va_rf (some h0)), (3, .int x3)]) : W p l e rm_Mo_entryFault s m args below meth c s.heap [] 0 0 (MQ below (mQR (some (.int r))) args s 0 0 (fun _ => False)) (F0 m 204 ls []) := by
  have hx := X.ex
  have hb := X.by_
  unfold f_Mo_entryFault_204 at hf
  refine lv_sipush (v := 4001) hx hb d_Mo_entryFault_204 (by decide) ?_
  refine lv_iload_n hx hb d_Mo_entryFault_207 rfl (lv_at hl 1 rfl) ?_
  refine lv_iadd hx hb d_Mo_entryFault_208 ?_
  obtain rfl := Option.some.inj hf
  exact r_iretR X d_Mo_entryFault_209

set_option maxHeartbeats 4000000 in
set_option maxRecDepth 100000 in
theorem w_Mo_entryFault_167 {μ : mM} {h0 : Nat} {r : Int32} (X : mX p m meth c s args b_Mo_entryFault 14 (some .int) "ColourLinkerModel") (G : mG D cA dA z0 s) (I : mI D cA z0 s μ s.heap [] s.heap.size) {ls : Array Slot} {x3 : Int32} (hf : f_Mo_entryFault_167 μ h0 x3 = some r) (hl : lv_has ls 14 [(0, va_rf (some h0)), (3, .int x3)]) : W p l e rm_Mo_entryFault s m args below meth c s.heap [] 0 0 (MQ below (mQR (some (.int r))) args s 0 0 (fun _ => False)) (F0 m 167 ls []) := by
  have hx := X.ex
  have hb := X.by_
  unfold f_Mo_entryFault_167 at hf
  refine lv_sipush (v := 3000) hx hb d_Mo_entryFault_167 (by decide) ?_
  refine lv_iload_n hx hb d_Mo_entryFault_170 rfl (lv_at hl 1 rfl) ?_
  refine lv_iadd hx hb d_Mo_entryFault_171 ?_
  obtain rfl := Option.some.inj hf
  exact r_iretR X d_Mo_entryFault_172

set_option maxHeartbeats 4000000 in
set_option maxRecDepth 100000 in
theorem w_Mo_entryFault_149 {μ : mM} {h0 : Nat} {r : Int32} (X : mX p m meth c s args b_Mo_entryFault 14 (some .int) "ColourLinkerModel") (G : mG D cA dA z0 s) (I : mI D cA z0 s μ s.heap [] s.heap.size) {ls : Array Slot} {x2 : Int32} {x3 : Int32} {x4 : Int32} {x5 : Int32} {x6 : Int32} {x7 : Int32} {x8 : Int32} (hf : f_Mo_entryFault_149 μ h0 x2 x3 x4 x5 x6 x7 x8 = some r) (hl : lv_has ls 14 [(0, va_rf (some h0)), (2, .int x2), (3, .int x3), (4, .int x4), (5, .int x5), (6, .int x6), (7, .int x7), (8, .int x8)]) : W p l e rm_Mo_entryFault s m args below meth c s.heap [] 0 0 (MQ below (mQR (some (.int r))) args s 0 0 (fun _ => False)) (F0 m 149 ls []) := by
  have hx := X.ex
  have hb := X.by_
  unfold f_Mo_entryFault_149 at hf
  refine lv_iload hx hb d_Mo_entryFault_149 (lv_at hl 3 rfl) ?_
  refine lv_iconst (v := 1) hx hb d_Mo_entryFault_151 (by decide) ?_
  refine lv_icmp_lt (tgt := 167) hx hb d_Mo_entryFault_152 (by decide) (fun hc => ?_) (fun hc => ?_)
  · have hf := mift hf hc
    exact w_Mo_entryFault_167 X G I hf (lv_sub hl [0, 2] rfl)
  · have hf := miff hf hc
    refine lv_iload hx hb d_Mo_entryFault_155 (lv_at hl 3 rfl) ?_
    refine lv_bipush (v := 12) hx hb d_Mo_entryFault_157 (by decide) ?_
    refine lv_icmp_gt (tgt := 167) hx hb d_Mo_entryFault_159 (by decide) (fun hc => ?_) (fun hc => ?_)
    · have hf := mift hf hc
      exact w_Mo_entryFault_167 X G I hf (lv_sub hl [0, 2] rfl)
    · have hf := miff hf hc
      refine lv_iload hx hb d_Mo_entryFault_162 (lv_at hl 6 rfl) ?_
      refine lv_if_eq (tgt := 173) hx hb d_Mo_entryFault_164 (by decide) (fun hc => ?_) (fun hc => ?_)
      · have hf := mift hf hc
        refine lv_iload hx hb d_Mo_entryFault_173 (lv_at hl 4 rfl) ?_
        refine lv_iconst (v := 4) hx hb d_Mo_entryFault_175 (by decide) ?_
        refine lv_irem hx hb d_Mo_entryFault_176 (by decide) ?_
        refine lv_if_ne (tgt := 204) hx hb d_Mo_entryFault_177 (by decide) (fun hc => ?_) (fun hc => ?_)
        · have hf := miff hf hc
          exact w_Mo_entryFault_204 X G I hf (lv_sub hl [0, 2] rfl)
        · have hf := mift hf hc
          refine lv_iload hx hb d_Mo_entryFault_180 (lv_at hl 4 rfl) ?_
          refine lv_iload_n hx hb d_Mo_entryFault_182 rfl (lv_at hl 1 rfl) ?_
          refine lv_icmp_lt (tgt := 204) hx hb d_Mo_entryFault_183 (by decide) (fun hc => ?_) (fun hc => ?_)
          · have hf := mift hf hc
            exact w_Mo_entryFault_204 X G I hf (lv_sub hl [0, 2] rfl)
          · have hf := miff hf hc
            refine lv_iload hx hb d_Mo_entryFault_186 (lv_at hl 5 rfl) ?_
            refine lv_iconst (v := 2) hx hb d_Mo_entryFault_188 (by decide) ?_
            refine lv_icmp_lt (tgt := 204) hx hb d_Mo_entryFault_189 (by decide) (fun hc => ?_) (fun hc => ?_)
            · have hf := mift hf hc
              exact w_Mo_entryFault_204 X G I hf (lv_sub hl [0, 2] rfl)
            · have hf := miff hf hc
              refine lv_iload hx hb d_Mo_entryFault_192 (lv_at hl 4 rfl) ?_
              refine lv_iload hx hb d_Mo_entryFault_194 (lv_at hl 5 rfl) ?_
              refine lv_iadd hx hb d_Mo_entryFault_196 ?_
              refine r_aload_n X d_Mo_entryFault_197 rfl (lv_at hl 0 rfl) ?_
              obtain ⟨v13, hv, hf⟩ := mbind hf
              refine r_getf X G I (mfI_e hv) o_Mo_size k_835 (Or.inl rfl) d_Mo_entryFault_198 ?_
              refine lv_icmp_le (tgt := 210) hx hb d_Mo_entryFault_201 (by decide) (fun hc => ?_) (fun hc => ?_)
              · have hf := mift hf hc
                refine r_aload_n X d_Mo_entryFault_210 rfl (lv_at hl 0 rfl) ?_
                obtain ⟨v14, hv, hf⟩ := mbind hf
                refine r_getf X G I (mfA_e hv) o_Mo_buffer k_834 (Or.inl rfl) d_Mo_entryFault_211 ?_
                refine lv_iload_n hx hb d_Mo_entryFault_214 rfl (lv_at hl 2 rfl) ?_
                refine lv_iconst (v := 3) hx hb d_Mo_entryFault_215 (by decide) ?_
                refine lv_iadd hx hb d_Mo_entryFault_216 ?_
                obtain ⟨v15, hv, hf⟩ := mbind hf
                refine r_iald X G I hv d_Mo_entryFault_217 ?_
                refine lv_if_eq (tgt := 227) hx hb d_Mo_entryFault_218 (by decide) (fun hc => ?_) (fun hc => ?_)
                · have hf := mift hf hc
                  refine lv_iload hx hb d_Mo_entryFault_227 (lv_at hl 7 rfl) ?_
                  refine lv_if_ne (tgt := 238) hx hb d_Mo_entryFault_229 (by decide) (fun hc => ?_) (fun hc => ?_)
                  · have hf := miff hf hc
                    refine r_aload_n X d_Mo_entryFault_238 rfl (lv_at hl 0 rfl) ?_
                    obtain ⟨v16, hv, hf⟩ := mbind hf
                    refine r_getf X G I (mfA_e hv) o_Mo_buffer k_834 (Or.inl rfl) d_Mo_entryFault_239 ?_
                    refine lv_iload hx hb d_Mo_entryFault_242 (lv_at hl 4 rfl) ?_
                    obtain ⟨v17, hv, hf⟩ := mbind hf
                    refine r_iald X G I hv d_Mo_entryFault_244 ?_
                    refine lv_istore (i := 9) (lv' := [(9, .int v17), (0, va_rf (some h0)), (2, .int x2), (3, .int x3), (4, .int x4), (5, .int x5), (6, .int x6), (7, .int x7), (8, .int x8)]) hx hb d_Mo_entryFault_245 hl (by decide) rfl (fun ls hl => ?_)
                    refine r_aload_n X d_Mo_entryFault_247 rfl (lv_at hl 1 rfl) ?_
                    obtain ⟨v18, hv, hf⟩ := mbind hf
                    refine r_getf X G I (mfA_e hv) o_Mo_buffer k_834 (Or.inl rfl) d_Mo_entryFault_248 ?_
                    refine lv_iload hx hb d_Mo_entryFault_251 (lv_at hl 5 rfl) ?_
                    refine lv_iconst (v := 1) hx hb d_Mo_entryFault_253 (by decide) ?_
                    refine lv_iadd hx hb d_Mo_entryFault_254 ?_
                    obtain ⟨v19, hv, hf⟩ := mbind hf
                    refine r_iald X G I hv d_Mo_entryFault_255 ?_
                    refine lv_istore (i := 10) (lv' := [(10, .int v19), (9, .int v17), (0, va_rf (some h0)), (2, .int x2), (3, .int x3), (4, .int x4), (5, .int x5), (6, .int x6), (7, .int x7), (8, .int x8)]) hx hb d_Mo_entryFault_256 hl (by decide) rfl (fun ls hl => ?_)
                    refine lv_iload hx hb d_Mo_entryFault_258 (lv_at hl 5 rfl) ?_
                    refine lv_iconst (v := 5) hx hb d_Mo_entryFault_260 (by decide) ?_
                    refine lv_icmp_ge (tgt := 284) hx hb d_Mo_entryFault_261 (by decide) (fun hc => ?_) (fun hc => ?_)
                    · have hf := mift hf hc
                      refine lv_iload hx hb d_Mo_entryFault_284 (lv_at hl 5 rfl) ?_
                      refine lv_iconst (v := 5) hx hb d_Mo_entryFault_286 (by decide) ?_
                      refine lv_icmp_ne (tgt := 304) hx hb d_Mo_entryFault_287 (by decide) (fun hc => ?_) (fun hc => ?_)
                      · have hf := miff hf hc
                        refine lv_iload hx hb d_Mo_entryFault_304 (lv_at hl 5 rfl) ?_
                        refine lv_bipush (v := 12) hx hb d_Mo_entryFault_306 (by decide) ?_
                        refine lv_icmp_ne (tgt := 325) hx hb d_Mo_entryFault_308 (by decide) (fun hc => ?_) (fun hc => ?_)
                        · have hf := miff hf hc
                          refine lv_iload hx hb d_Mo_entryFault_325 (lv_at hl 1 rfl) ?_
                          refine lv_iconst (v := 4) hx hb d_Mo_entryFault_327 (by decide) ?_
                          refine lv_icmp_ne (tgt := 335) hx hb d_Mo_entryFault_328 (by decide) (fun hc => ?_) (fun hc => ?_)
                          · have hf := miff hf hc
                            refine lv_iconst (v := 0) hx hb d_Mo_entryFault_335 (by decide) ?_
                            exact w_Mo_entryFault_336 X G I hf (lv_sub hl [2, 6, 7, 1, 0] rfl)
                          · have hf := mift hf hc
                            refine lv_iconst (v := 1) hx hb d_Mo_entryFault_331 (by decide) ?_
                            refine lv_goto (tgt := 336) hx hb d_Mo_entryFault_332 (by decide) ?_
                            exact w_Mo_entryFault_336 X G I hf (lv_sub hl [2, 6, 7, 1, 0] rfl)
                        · have hf := mift hf hc
                          refine lv_iload hx hb d_Mo_entryFault_311 (lv_at hl 1 rfl) ?_
                          refine lv_iconst (v := 5) hx hb d_Mo_entryFault_313 (by decide) ?_
                          refine lv_icmp_ne (tgt := 321) hx hb d_Mo_entryFault_314 (by decide) (fun hc => ?_) (fun hc => ?_)
                          · have hf := miff hf hc
                            refine lv_iconst (v := 0) hx hb d_Mo_entryFault_321 (by decide) ?_
                            refine lv_goto (tgt := 336) hx hb d_Mo_entryFault_322 (by decide) ?_
                            exact w_Mo_entryFault_336 X G I hf (lv_sub hl [2, 6, 7, 1, 0] rfl)
                          · have hf := mift hf hc
                            refine lv_iconst (v := 1) hx hb d_Mo_entryFault_317 (by decide) ?_
                            refine lv_goto (tgt := 336) hx hb d_Mo_entryFault_318 (by decide) ?_
                            exact w_Mo_entryFault_336 X G I hf (lv_sub hl [2, 6, 7, 1, 0] rfl)
                      · have hf := mift hf hc
                        refine lv_iload hx hb d_Mo_entryFault_290 (lv_at hl 1 rfl) ?_
                        refine lv_iconst (v := 3) hx hb d_Mo_entryFault_292 (by decide) ?_
                        refine lv_icmp_ne (tgt := 300) hx hb d_Mo_entryFault_293 (by decide) (fun hc => ?_) (fun hc => ?_)
                        · have hf := miff hf hc
                          refine lv_iconst (v := 0) hx hb d_Mo_entryFault_300 (by decide) ?_
                          refine lv_goto (tgt := 336) hx hb d_Mo_entryFault_301 (by decide) ?_
                          exact w_Mo_entryFault_336 X G I hf (lv_sub hl [2, 6, 7, 1, 0] rfl)
                        · have hf := mift hf hc
                          refine lv_iconst (v := 1) hx hb d_Mo_entryFault_296 (by decide) ?_
                          refine lv_goto (tgt := 336) hx hb d_Mo_entryFault_297 (by decide) ?_
                          exact w_Mo_entryFault_336 X G I hf (lv_sub hl [2, 6, 7, 1, 0] rfl)
                    · have hf := miff hf hc
                      refine lv_iload hx hb d_Mo_entryFault_264 (lv_at hl 1 rfl) ?_
                      refine lv_iconst (v := 1) hx hb d_Mo_entryFault_266 (by decide) ?_
                      refine lv_icmp_eq (tgt := 276) hx hb d_Mo_entryFault_267 (by decide) (fun hc => ?_) (fun hc => ?_)
                      · have hf := mift hf hc
                        exact w_Mo_entryFault_276 X G I hf (lv_sub hl [2, 6, 7, 1, 0] rfl)
                      · have hf := miff hf hc
                        refine lv_iload hx hb d_Mo_entryFault_270 (lv_at hl 1 rfl) ?_
                        refine lv_iconst (v := 2) hx hb d_Mo_entryFault_272 (by decide) ?_
                        refine lv_icmp_ne (tgt := 280) hx hb d_Mo_entryFault_273 (by decide) (fun hc => ?_) (fun hc => ?_)
                        · have hf := miff hf hc
                          refine lv_iconst (v := 0) hx hb d_Mo_entryFault_280 (by decide) ?_
                          refine lv_goto (tgt := 336) hx hb d_Mo_entryFault_281 (by decide) ?_
                          exact w_Mo_entryFault_336 X G I hf (lv_sub hl [2, 6, 7, 1, 0] rfl)
                        · have hf := mift hf hc
                          exact w_Mo_entryFault_276 X G I hf (lv_sub hl [2, 6, 7, 1, 0] rfl)
                  · have hf := mift hf hc
                    refine lv_sipush (v := 6001) hx hb d_Mo_entryFault_232 (by decide) ?_
                    refine lv_iload_n hx hb d_Mo_entryFault_235 rfl (lv_at hl 2 rfl) ?_
                    refine lv_iadd hx hb d_Mo_entryFault_236 ?_
                    obtain rfl := Option.some.inj hf
                    exact r_iretR X d_Mo_entryFault_237
                · have hf := miff hf hc
                  refine lv_sipush (v := 5003) hx hb d_Mo_entryFault_221 (by decide) ?_
                  refine lv_iload_n hx hb d_Mo_entryFault_224 rfl (lv_at hl 2 rfl) ?_
                  refine lv_iadd hx hb d_Mo_entryFault_225 ?_
                  obtain rfl := Option.some.inj hf
                  exact r_iretR X d_Mo_entryFault_226
              · have hf := miff hf hc
                exact w_Mo_entryFault_204 X G I hf (lv_sub hl [0, 2] rfl)
      · have hf := miff hf hc
        exact w_Mo_entryFault_167 X G I hf (lv_sub hl [0, 2] rfl)

set_option maxHeartbeats 4000000 in
set_option maxRecDepth 100000 in
theorem w_Mo_entryFault_141 {μ : mM} {h0 : Nat} {r : Int32} (X : mX p m meth c s args b_Mo_entryFault 14 (some .int) "ColourLinkerModel") (G : mG D cA dA z0 s) (I : mI D cA z0 s μ s.heap [] s.heap.size) {k : Int32 → Int32 → Int32 → Int32 → Int32 → Int32 → Int32 → Int32 → Option (Int32)} {kx149 : Int32 → Int32 → Int32 → Int32 → Int32 → Int32 → Int32 → Option (Int32)} (hk : ∀ (ls : Array Slot) (x2 : Int32) (x3 : Int32) (x4 : Int32) (x5 : Int32) (x6 : Int32) (x7 : Int32) (x8 : Int32) (x9 : Int32), k x2 x3 x4 x5 x6 x7 x8 x9 = some r → lv_has ls 14 [(0, va_rf (some h0)), (2, .int x2), (3, .int x3), (4, .int x4), (5, .int x5), (6, .int x6), (7, .int x7), (8, .int x8), (9, .int x9)] → W p l e rm_Mo_entryFault s m args below meth c s.heap [] 0 0 (MQ below (mQR (some (.int r))) args s 0 0 (fun _ => False)) (F0 m 45 ls [])) (hkx149 : ∀ (ls : Array Slot) (x2 : Int32) (x3 : Int32) (x4 : Int32) (x5 : Int32) (x6 : Int32) (x7 : Int32) (x8 : Int32), kx149 x2 x3 x4 x5 x6 x7 x8 = some r → lv_has ls 14 [(0, va_rf (some h0)), (2, .int x2), (3, .int x3), (4, .int x4), (5, .int x5), (6, .int x6), (7, .int x7), (8, .int x8)] → W p l e rm_Mo_entryFault s m args below meth c s.heap [] 0 0 (MQ below (mQR (some (.int r))) args s 0 0 (fun _ => False)) (F0 m 149 ls [])) {ls : Array Slot} {x2 : Int32} {x3 : Int32} {x4 : Int32} {x5 : Int32} {x6 : Int32} {x7 : Int32} {x9 : Int32} {s0 : Int32} (hf : f_Mo_entryFault_141 μ h0 k kx149 x2 x3 x4 x5 x6 x7 x9 s0 = some r) (hl : lv_has ls 14 [(0, va_rf (some h0)), (2, .int x2), (3, .int x3), (4, .int x4), (5, .int x5), (6, .int x6), (7, .int x7), (9, .int x9)]) : W p l e rm_Mo_entryFault s m args below meth c s.heap [] 0 0 (MQ below (mQR (some (.int r))) args s 0 0 (fun _ => False)) (F0 m 141 ls [.int s0]) := by
  have hx := X.ex
  have hb := X.by_
  unfold f_Mo_entryFault_141 at hf
  refine lv_istore (i := 8) (lv' := [(8, .int s0), (0, va_rf (some h0)), (2, .int x2), (3, .int x3), (4, .int x4), (5, .int x5), (6, .int x6), (7, .int x7), (9, .int x9)]) hx hb d_Mo_entryFault_141 hl (by decide) rfl (fun ls hl => ?_)
  refine lv_iinc (i := 9) (k := 8) (v := (x9 + (4 : Int32))) (lv' := [(9, .int (x9 + (4 : Int32))), (8, .int s0), (0, va_rf (some h0)), (2, .int x2), (3, .int x3), (4, .int x4), (5, .int x5), (6, .int x6), (7, .int x7)]) hx hb d_Mo_entryFault_143 hl rfl (congrArg (fun t => x9 + t) (by decide : Int32.ofInt (4) = (4 : Int32))) (by decide) rfl (fun ls hl => ?_)
  refine lv_goto (tgt := 45) hx hb d_Mo_entryFault_146 (by decide) ?_
  exact hk _ _ _ _ _ _ _ _ _ hf (lv_sub hl [2, 3, 4, 5, 6, 7, 8, 1, 0] rfl)

set_option maxHeartbeats 4000000 in
set_option maxRecDepth 100000 in
theorem w_Mo_entryFault_140 {μ : mM} {h0 : Nat} {r : Int32} (X : mX p m meth c s args b_Mo_entryFault 14 (some .int) "ColourLinkerModel") (G : mG D cA dA z0 s) (I : mI D cA z0 s μ s.heap [] s.heap.size) {k : Int32 → Int32 → Int32 → Int32 → Int32 → Int32 → Int32 → Int32 → Option (Int32)} {kx149 : Int32 → Int32 → Int32 → Int32 → Int32 → Int32 → Int32 → Option (Int32)} (hk : ∀ (ls : Array Slot) (x2 : Int32) (x3 : Int32) (x4 : Int32) (x5 : Int32) (x6 : Int32) (x7 : Int32) (x8 : Int32) (x9 : Int32), k x2 x3 x4 x5 x6 x7 x8 x9 = some r → lv_has ls 14 [(0, va_rf (some h0)), (2, .int x2), (3, .int x3), (4, .int x4), (5, .int x5), (6, .int x6), (7, .int x7), (8, .int x8), (9, .int x9)] → W p l e rm_Mo_entryFault s m args below meth c s.heap [] 0 0 (MQ below (mQR (some (.int r))) args s 0 0 (fun _ => False)) (F0 m 45 ls [])) (hkx149 : ∀ (ls : Array Slot) (x2 : Int32) (x3 : Int32) (x4 : Int32) (x5 : Int32) (x6 : Int32) (x7 : Int32) (x8 : Int32), kx149 x2 x3 x4 x5 x6 x7 x8 = some r → lv_has ls 14 [(0, va_rf (some h0)), (2, .int x2), (3, .int x3), (4, .int x4), (5, .int x5), (6, .int x6), (7, .int x7), (8, .int x8)] → W p l e rm_Mo_entryFault s m args below meth c s.heap [] 0 0 (MQ below (mQR (some (.int r))) args s 0 0 (fun _ => False)) (F0 m 149 ls [])) {ls : Array Slot} {x2 : Int32} {x3 : Int32} {x4 : Int32} {x5 : Int32} {x6 : Int32} {x7 : Int32} {x9 : Int32} (hf : f_Mo_entryFault_140 μ h0 k kx149 x2 x3 x4 x5 x6 x7 x9 = some r) (hl : lv_has ls 14 [(0, va_rf (some h0)), (2, .int x2), (3, .int x3), (4, .int x4), (5, .int x5), (6, .int x6), (7, .int x7), (9, .int x9)]) : W p l e rm_Mo_entryFault s m args below meth c s.heap [] 0 0 (MQ below (mQR (some (.int r))) args s 0 0 (fun _ => False)) (F0 m 140 ls []) := by
  have hx := X.ex
  have hb := X.by_
  unfold f_Mo_entryFault_140 at hf
  refine lv_iconst (v := 0) hx hb d_Mo_entryFault_140 (by decide) ?_
  exact w_Mo_entryFault_141 X G I hk hkx149 hf hl

set_option maxHeartbeats 4000000 in
set_option maxRecDepth 100000 in
theorem w_Mo_entryFault_136 {μ : mM} {h0 : Nat} {r : Int32} (X : mX p m meth c s args b_Mo_entryFault 14 (some .int) "ColourLinkerModel") (G : mG D cA dA z0 s) (I : mI D cA z0 s μ s.heap [] s.heap.size) {k : Int32 → Int32 → Int32 → Int32 → Int32 → Int32 → Int32 → Int32 → Option (Int32)} {kx149 : Int32 → Int32 → Int32 → Int32 → Int32 → Int32 → Int32 → Option (Int32)} (hk : ∀ (ls : Array Slot) (x2 : Int32) (x3 : Int32) (x4 : Int32) (x5 : Int32) (x6 : Int32) (x7 : Int32) (x8 : Int32) (x9 : Int32), k x2 x3 x4 x5 x6 x7 x8 x9 = some r → lv_has ls 14 [(0, va_rf (some h0)), (2, .int x2), (3, .int x3), (4, .int x4), (5, .int x5), (6, .int x6), (7, .int x7), (8, .int x8), (9, .int x9)] → W p l e rm_Mo_entryFault s m args below meth c s.heap [] 0 0 (MQ below (mQR (some (.int r))) args s 0 0 (fun _ => False)) (F0 m 45 ls [])) (hkx149 : ∀ (ls : Array Slot) (x2 : Int32) (x3 : Int32) (x4 : Int32) (x5 : Int32) (x6 : Int32) (x7 : Int32) (x8 : Int32), kx149 x2 x3 x4 x5 x6 x7 x8 = some r → lv_has ls 14 [(0, va_rf (some h0)), (2, .int x2), (3, .int x3), (4, .int x4), (5, .int x5), (6, .int x6), (7, .int x7), (8, .int x8)] → W p l e rm_Mo_entryFault s m args below meth c s.heap [] 0 0 (MQ below (mQR (some (.int r))) args s 0 0 (fun _ => False)) (F0 m 149 ls [])) {ls : Array Slot} {x2 : Int32} {x3 : Int32} {x4 : Int32} {x5 : Int32} {x6 : Int32} {x7 : Int32} {x9 : Int32} (hf : f_Mo_entryFault_136 μ h0 k kx149 x2 x3 x4 x5 x6 x7 x9 = some r) (hl : lv_has ls 14 [(0, va_rf (some h0)), (2, .int x2), (3, .int x3), (4, .int x4), (5, .int x5), (6, .int x6), (7, .int x7), (9, .int x9)]) : W p l e rm_Mo_entryFault s m args below meth c s.heap [] 0 0 (MQ below (mQR (some (.int r))) args s 0 0 (fun _ => False)) (F0 m 136 ls []) := by
  have hx := X.ex
  have hb := X.by_
  unfold f_Mo_entryFault_136 at hf
  refine lv_iconst (v := 1) hx hb d_Mo_entryFault_136 (by decide) ?_
  refine lv_goto (tgt := 141) hx hb d_Mo_entryFault_137 (by decide) ?_
  exact w_Mo_entryFault_141 X G I hk hkx149 hf hl

set_option maxHeartbeats 4000000 in
set_option maxRecDepth 100000 in
theorem w_Mo_entryFault_116 {μ : mM} {h0 : Nat} {r : Int32} (X : mX p m meth c s args b_Mo_entryFault 14 (some .int) "ColourLinkerModel") (G : mG D cA dA z0 s) (I : mI D cA z0 s μ s.heap [] s.heap.size) {k : Int32 → Int32 → Int32 → Int32 → Int32 → Int32 → Int32 → Int32 → Option (Int32)} {kx149 : Int32 → Int32 → Int32 → Int32 → Int32 → Int32 → Int32 → Option (Int32)} (hk : ∀ (ls : Array Slot) (x2 : Int32) (x3 : Int32) (x4 : Int32) (x5 : Int32) (x6 : Int32) (x7 : Int32) (x8 : Int32) (x9 : Int32), k x2 x3 x4 x5 x6 x7 x8 x9 = some r → lv_has ls 14 [(0, va_rf (some h0)), (2, .int x2), (3, .int x3), (4, .int x4), (5, .int x5), (6, .int x6), (7, .int x7), (8, .int x8), (9, .int x9)] → W p l e rm_Mo_entryFault s m args below meth c s.heap [] 0 0 (MQ below (mQR (some (.int r))) args s 0 0 (fun _ => False)) (F0 m 45 ls [])) (hkx149 : ∀ (ls : Array Slot) (x2 : Int32) (x3 : Int32) (x4 : Int32) (x5 : Int32) (x6 : Int32) (x7 : Int32) (x8 : Int32), kx149 x2 x3 x4 x5 x6 x7 x8 = some r → lv_has ls 14 [(0, va_rf (some h0)), (2, .int x2), (3, .int x3), (4, .int x4), (5, .int x5), (6, .int x6), (7, .int x7), (8, .int x8)] → W p l e rm_Mo_entryFault s m args below meth c s.heap [] 0 0 (MQ below (mQR (some (.int r))) args s 0 0 (fun _ => False)) (F0 m 149 ls [])) {ls : Array Slot} {x2 : Int32} {x3 : Int32} {x4 : Int32} {x5 : Int32} {x6 : Int32} {x7 : Int32} {x9 : Int32} {x10 : Int32} {x11 : Int32} (hf : f_Mo_entryFault_116 μ h0 k kx149 x2 x3 x4 x5 x6 x7 x9 x10 x11 = some r) (hl : lv_has ls 14 [(0, va_rf (some h0)), (2, .int x2), (3, .int x3), (4, .int x4), (5, .int x5), (6, .int x6), (7, .int x7), (9, .int x9), (10, .int x10), (11, .int x11)]) : W p l e rm_Mo_entryFault s m args below meth c s.heap [] 0 0 (MQ below (mQR (some (.int r))) args s 0 0 (fun _ => False)) (F0 m 116 ls []) := by
  have hx := X.ex
  have hb := X.by_
  unfold f_Mo_entryFault_116 at hf
  refine lv_iload hx hb d_Mo_entryFault_116 (lv_at hl 8 rfl) ?_
  refine lv_iload hx hb d_Mo_entryFault_118 (lv_at hl 9 rfl) ?_
  refine lv_iadd hx hb d_Mo_entryFault_120 ?_
  refine lv_iload hx hb d_Mo_entryFault_121 (lv_at hl 4 rfl) ?_
  refine lv_icmp_le (tgt := 136) hx hb d_Mo_entryFault_123 (by decide) (fun hc => ?_) (fun hc => ?_)
  · have hf := mift hf hc
    exact w_Mo_entryFault_136 X G I hk hkx149 hf (lv_sub hl [0, 1, 2, 3, 4, 5, 6, 7] rfl)
  · have hf := miff hf hc
    refine lv_iload hx hb d_Mo_entryFault_126 (lv_at hl 4 rfl) ?_
    refine lv_iload hx hb d_Mo_entryFault_128 (lv_at hl 5 rfl) ?_
    refine lv_iadd hx hb d_Mo_entryFault_130 ?_
    refine lv_iload hx hb d_Mo_entryFault_131 (lv_at hl 8 rfl) ?_
    refine lv_icmp_gt (tgt := 140) hx hb d_Mo_entryFault_133 (by decide) (fun hc => ?_) (fun hc => ?_)
    · have hf := mift hf hc
      exact w_Mo_entryFault_140 X G I hk hkx149 hf (lv_sub hl [0, 1, 2, 3, 4, 5, 6, 7] rfl)
    · have hf := miff hf hc
      exact w_Mo_entryFault_136 X G I hk hkx149 hf (lv_sub hl [0, 1, 2, 3, 4, 5, 6, 7] rfl)

set_option maxHeartbeats 4000000 in
set_option maxRecDepth 100000 in
theorem w_Mo_entryFault_95 {μ : mM} {h0 : Nat} {r : Int32} (X : mX p m meth c s args b_Mo_entryFault 14 (some .int) "ColourLinkerModel") (G : mG D cA dA z0 s) (I : mI D cA z0 s μ s.heap [] s.heap.size) {k : Int32 → Int32 → Int32 → Int32 → Int32 → Int32 → Int32 → Int32 → Option (Int32)} {kx149 : Int32 → Int32 → Int32 → Int32 → Int32 → Int32 → Int32 → Option (Int32)} (hk : ∀ (ls : Array Slot) (x2 : Int32) (x3 : Int32) (x4 : Int32) (x5 : Int32) (x6 : Int32) (x7 : Int32) (x8 : Int32) (x9 : Int32), k x2 x3 x4 x5 x6 x7 x8 x9 = some r → lv_has ls 14 [(0, va_rf (some h0)), (2, .int x2), (3, .int x3), (4, .int x4), (5, .int x5), (6, .int x6), (7, .int x7), (8, .int x8), (9, .int x9)] → W p l e rm_Mo_entryFault s m args below meth c s.heap [] 0 0 (MQ below (mQR (some (.int r))) args s 0 0 (fun _ => False)) (F0 m 45 ls [])) (hkx149 : ∀ (ls : Array Slot) (x2 : Int32) (x3 : Int32) (x4 : Int32) (x5 : Int32) (x6 : Int32) (x7 : Int32) (x8 : Int32), kx149 x2 x3 x4 x5 x6 x7 x8 = some r → lv_has ls 14 [(0, va_rf (some h0)), (2, .int x2), (3, .int x3), (4, .int x4), (5, .int x5), (6, .int x6), (7, .int x7), (8, .int x8)] → W p l e rm_Mo_entryFault s m args below meth c s.heap [] 0 0 (MQ below (mQR (some (.int r))) args s 0 0 (fun _ => False)) (F0 m 149 ls [])) {ls : Array Slot} {x2 : Int32} {x3 : Int32} {x4 : Int32} {x5 : Int32} {x6 : Int32} {x8 : Int32} {x9 : Int32} {x10 : Int32} {x11 : Int32} {s0 : Int32} (hf : f_Mo_entryFault_95 μ h0 k kx149 x2 x3 x4 x5 x6 x8 x9 x10 x11 s0 = some r) (hl : lv_has ls 14 [(0, va_rf (some h0)), (2, .int x2), (3, .int x3), (4, .int x4), (5, .int x5), (6, .int x6), (8, .int x8), (9, .int x9), (10, .int x10), (11, .int x11)]) : W p l e rm_Mo_entryFault s m args below meth c s.heap [] 0 0 (MQ below (mQR (some (.int r))) args s 0 0 (fun _ => False)) (F0 m 95 ls [.int s0]) := by
  have hx := X.ex
  have hb := X.by_
  unfold f_Mo_entryFault_95 at hf
  refine lv_istore (i := 7) (lv' := [(7, .int s0), (0, va_rf (some h0)), (2, .int x2), (3, .int x3), (4, .int x4), (5, .int x5), (6, .int x6), (8, .int x8), (9, .int x9), (10, .int x10), (11, .int x11)]) hx hb d_Mo_entryFault_95 hl (by decide) rfl (fun ls hl => ?_)
  refine lv_iload hx hb d_Mo_entryFault_97 (lv_at hl 7 rfl) ?_
  refine lv_if_eq (tgt := 140) hx hb d_Mo_entryFault_99 (by decide) (fun hc => ?_) (fun hc => ?_)
  · have hf := mift hf hc
    exact w_Mo_entryFault_140 X G I hk hkx149 hf (lv_sub hl [1, 2, 3, 4, 5, 6, 0, 8] rfl)
  · have hf := miff hf hc
    refine lv_iload hx hb d_Mo_entryFault_102 (lv_at hl 9 rfl) ?_
    refine lv_iload hx hb d_Mo_entryFault_104 (lv_at hl 5 rfl) ?_
    refine lv_icmp_ne (tgt := 116) hx hb d_Mo_entryFault_106 (by decide) (fun hc => ?_) (fun hc => ?_)
    · have hf := miff hf hc
      exact w_Mo_entryFault_116 X G I hk hkx149 hf (lv_sub hl [1, 2, 3, 4, 5, 6, 0, 8, 9, 10] rfl)
    · have hf := mift hf hc
      refine lv_iload hx hb d_Mo_entryFault_109 (lv_at hl 10 rfl) ?_
      refine lv_iload hx hb d_Mo_entryFault_111 (lv_at hl 6 rfl) ?_
      refine lv_icmp_eq (tgt := 136) hx hb d_Mo_entryFault_113 (by decide) (fun hc => ?_) (fun hc => ?_)
      · have hf := mift hf hc
        exact w_Mo_entryFault_136 X G I hk hkx149 hf (lv_sub hl [1, 2, 3, 4, 5, 6, 0, 8] rfl)
      · have hf := miff hf hc
        exact w_Mo_entryFault_116 X G I hk hkx149 hf (lv_sub hl [1, 2, 3, 4, 5, 6, 0, 8, 9, 10] rfl)

set_option maxHeartbeats 4000000 in
set_option maxRecDepth 100000 in
theorem w_Mo_entryFault_90 {μ : mM} {h0 : Nat} {r : Int32} (X : mX p m meth c s args b_Mo_entryFault 14 (some .int) "ColourLinkerModel") (G : mG D cA dA z0 s) (I : mI D cA z0 s μ s.heap [] s.heap.size) {k : Int32 → Int32 → Int32 → Int32 → Int32 → Int32 → Int32 → Int32 → Option (Int32)} {kx149 : Int32 → Int32 → Int32 → Int32 → Int32 → Int32 → Int32 → Option (Int32)} (hk : ∀ (ls : Array Slot) (x2 : Int32) (x3 : Int32) (x4 : Int32) (x5 : Int32) (x6 : Int32) (x7 : Int32) (x8 : Int32) (x9 : Int32), k x2 x3 x4 x5 x6 x7 x8 x9 = some r → lv_has ls 14 [(0, va_rf (some h0)), (2, .int x2), (3, .int x3), (4, .int x4), (5, .int x5), (6, .int x6), (7, .int x7), (8, .int x8), (9, .int x9)] → W p l e rm_Mo_entryFault s m args below meth c s.heap [] 0 0 (MQ below (mQR (some (.int r))) args s 0 0 (fun _ => False)) (F0 m 45 ls [])) (hkx149 : ∀ (ls : Array Slot) (x2 : Int32) (x3 : Int32) (x4 : Int32) (x5 : Int32) (x6 : Int32) (x7 : Int32) (x8 : Int32), kx149 x2 x3 x4 x5 x6 x7 x8 = some r → lv_has ls 14 [(0, va_rf (some h0)), (2, .int x2), (3, .int x3), (4, .int x4), (5, .int x5), (6, .int x6), (7, .int x7), (8, .int x8)] → W p l e rm_Mo_entryFault s m args below meth c s.heap [] 0 0 (MQ below (mQR (some (.int r))) args s 0 0 (fun _ => False)) (F0 m 149 ls [])) {ls : Array Slot} {x2 : Int32} {x3 : Int32} {x4 : Int32} {x5 : Int32} {x6 : Int32} {x8 : Int32} {x9 : Int32} {x10 : Int32} {x11 : Int32} (hf : f_Mo_entryFault_90 μ h0 k kx149 x2 x3 x4 x5 x6 x8 x9 x10 x11 = some r) (hl : lv_has ls 14 [(0, va_rf (some h0)), (2, .int x2), (3, .int x3), (4, .int x4), (5, .int x5), (6, .int x6), (8, .int x8), (9, .int x9), (10, .int x10), (11, .int x11)]) : W p l e rm_Mo_entryFault s m args below meth c s.heap [] 0 0 (MQ below (mQR (some (.int r))) args s 0 0 (fun _ => False)) (F0 m 90 ls []) := by
  have hx := X.ex
  have hb := X.by_
  unfold f_Mo_entryFault_90 at hf
  refine lv_iconst (v := 1) hx hb d_Mo_entryFault_90 (by decide) ?_
  refine lv_goto (tgt := 95) hx hb d_Mo_entryFault_91 (by decide) ?_
  exact w_Mo_entryFault_95 X G I hk hkx149 hf hl

set_option maxHeartbeats 4000000 in
set_option maxRecDepth 100000 in
theorem w_Mo_entryFault_45 {μ : mM} {h0 : Nat} {r : Int32} (X : mX p m meth c s args b_Mo_entryFault 14 (some .int) "ColourLinkerModel") (G : mG D cA dA z0 s) (I : mI D cA z0 s μ s.heap [] s.heap.size) {kx149 : Int32 → Int32 → Int32 → Int32 → Int32 → Int32 → Int32 → Option (Int32)} (hkx149 : ∀ (ls : Array Slot) (x2 : Int32) (x3 : Int32) (x4 : Int32) (x5 : Int32) (x6 : Int32) (x7 : Int32) (x8 : Int32), kx149 x2 x3 x4 x5 x6 x7 x8 = some r → lv_has ls 14 [(0, va_rf (some h0)), (2, .int x2), (3, .int x3), (4, .int x4), (5, .int x5), (6, .int x6), (7, .int x7), (8, .int x8)] → W p l e rm_Mo_entryFault s m args below meth c s.heap [] 0 0 (MQ below (mQR (some (.int r))) args s 0 0 (fun _ => False)) (F0 m 149 ls [])) : ∀ (n : Nat) (ls : Array Slot) (x2 : Int32) (x3 : Int32) (x4 : Int32) (x5 : Int32) (x6 : Int32) (x7 : Int32) (x8 : Int32) (x9 : Int32), f_Mo_entryFault_45 μ h0 kx149 n x2 x3 x4 x5 x6 x7 x8 x9 = some r → lv_has ls 14 [(0, va_rf (some h0)), (2, .int x2), (3, .int x3), (4, .int x4), (5, .int x5), (6, .int x6), (7, .int x7), (8, .int x8), (9, .int x9)] → W p l e rm_Mo_entryFault s m args below meth c s.heap [] 0 0 (MQ below (mQR (some (.int r))) args s 0 0 (fun _ => False)) (F0 m 45 ls []) := by
  have hx := X.ex
  have hb := X.by_
  intro n
  induction n with
  | zero => intro ls x2 x3 x4 x5 x6 x7 x8 x9 hf hl; rw [f_Mo_entryFault_45] at hf; cases hf
  | succ n ih =>
    intro ls x2 x3 x4 x5 x6 x7 x8 x9 hf hl
    rw [f_Mo_entryFault_45] at hf
    refine lv_iload hx hb d_Mo_entryFault_45 (lv_at hl 8 rfl) ?_
    refine lv_iload_n hx hb d_Mo_entryFault_47 rfl (lv_at hl 2 rfl) ?_
    refine lv_icmp_ge (tgt := 149) hx hb d_Mo_entryFault_48 (by decide) (fun hc => ?_) (fun hc => ?_)
    · have hf := mift hf hc
      exact hkx149 _ _ _ _ _ _ _ _ hf (lv_sub hl [0, 1, 2, 3, 4, 5, 6, 7] rfl)
    · have hf := miff hf hc
      refine r_aload_n X d_Mo_entryFault_51 rfl (lv_at hl 0 rfl) ?_
      obtain ⟨v7, hv, hf⟩ := mbind hf
      refine r_getf X G I (mfA_e hv) o_Mo_buffer k_834 (Or.inl rfl) d_Mo_entryFault_52 ?_
      refine lv_iload hx hb d_Mo_entryFault_55 (lv_at hl 8 rfl) ?_
      refine lv_iconst (v := 1) hx hb d_Mo_entryFault_57 (by decide) ?_
      refine lv_iadd hx hb d_Mo_entryFault_58 ?_
      obtain ⟨v8, hv, hf⟩ := mbind hf
      refine r_iald X G I hv d_Mo_entryFault_59 ?_
      refine lv_istore (i := 10) (lv' := [(10, .int v8), (0, va_rf (some h0)), (2, .int x2), (3, .int x3), (4, .int x4), (5, .int x5), (6, .int x6), (7, .int x7), (8, .int x8), (9, .int x9)]) hx hb d_Mo_entryFault_60 hl (by decide) rfl (fun ls hl => ?_)
      refine r_aload_n X d_Mo_entryFault_62 rfl (lv_at hl 1 rfl) ?_
      obtain ⟨v9, hv, hf⟩ := mbind hf
      refine r_getf X G I (mfA_e hv) o_Mo_buffer k_834 (Or.inl rfl) d_Mo_entryFault_63 ?_
      refine lv_iload hx hb d_Mo_entryFault_66 (lv_at hl 9 rfl) ?_
      refine lv_iconst (v := 2) hx hb d_Mo_entryFault_68 (by decide) ?_
      refine lv_iadd hx hb d_Mo_entryFault_69 ?_
      obtain ⟨v10, hv, hf⟩ := mbind hf
      refine r_iald X G I hv d_Mo_entryFault_70 ?_
      refine lv_istore (i := 11) (lv' := [(11, .int v10), (10, .int v8), (0, va_rf (some h0)), (2, .int x2), (3, .int x3), (4, .int x4), (5, .int x5), (6, .int x6), (7, .int x7), (8, .int x8), (9, .int x9)]) hx hb d_Mo_entryFault_71 hl (by decide) rfl (fun ls hl => ?_)
      refine lv_iload hx hb d_Mo_entryFault_73 (lv_at hl 8 rfl) ?_
      refine lv_if_ne (tgt := 90) hx hb d_Mo_entryFault_75 (by decide) (fun hc => ?_) (fun hc => ?_)
      · have hf := miff hf hc
        exact w_Mo_entryFault_90 X G I ih hkx149 hf (lv_sub hl [2, 3, 4, 5, 6, 7, 9, 10, 1, 0] rfl)
      · have hf := mift hf hc
        refine r_aload_n X d_Mo_entryFault_78 rfl (lv_at hl 2 rfl) ?_
        obtain ⟨v11, hv, hf⟩ := mbind hf
        refine r_getf X G I (mfA_e hv) o_Mo_buffer k_834 (Or.inl rfl) d_Mo_entryFault_79 ?_
        refine lv_iload hx hb d_Mo_entryFault_82 (lv_at hl 10 rfl) ?_
        obtain ⟨v12, hv, hf⟩ := mbind hf
        refine r_iald X G I hv d_Mo_entryFault_84 ?_
        refine lv_iload hx hb d_Mo_entryFault_85 (lv_at hl 5 rfl) ?_
        refine lv_icmp_ne (tgt := 94) hx hb d_Mo_entryFault_87 (by decide) (fun hc => ?_) (fun hc => ?_)
        · have hf := miff hf hc
          refine lv_iconst (v := 0) hx hb d_Mo_entryFault_94 (by decide) ?_
          exact w_Mo_entryFault_95 X G I ih hkx149 hf (lv_sub hl [2, 3, 4, 5, 6, 7, 9, 10, 1, 0] rfl)
        · have hf := mift hf hc
          exact w_Mo_entryFault_90 X G I ih hkx149 hf (lv_sub hl [2, 3, 4, 5, 6, 7, 9, 10, 1, 0] rfl)

set_option maxHeartbeats 4000000 in
set_option maxRecDepth 100000 in
theorem w_Mo_entryFault {μ : mM} {h0 : Nat} {r : Int32} (X : mX p m meth c s args b_Mo_entryFault 14 (some .int) "ColourLinkerModel") (G : mG D cA dA z0 s) (I : mI D cA z0 s μ s.heap [] s.heap.size) {ls : Array Slot} {x1 : Int32} {x2 : Int32} (hf : f_Mo_entryFault μ h0 x1 x2 = some r) (hl : lv_has ls 14 [(0, va_rf (some h0)), (1, .int x1), (2, .int x2)]) : W p l e rm_Mo_entryFault s m args below meth c s.heap [] 0 0 (MQ below (mQR (some (.int r))) args s 0 0 (fun _ => False)) (F0 m 0 ls []) := by
  have hx := X.ex
  have hb := X.by_
  unfold f_Mo_entryFault at hf
  refine lv_bipush (v := 8) hx hb d_Mo_entryFault_0 (by decide) ?_
  refine lv_iconst (v := 4) hx hb d_Mo_entryFault_2 (by decide) ?_
  refine lv_iload_n hx hb d_Mo_entryFault_3 rfl (lv_at hl 1 rfl) ?_
  refine lv_imul hx hb d_Mo_entryFault_4 ?_
  refine lv_iadd hx hb d_Mo_entryFault_5 ?_
  refine lv_istore_n (i := 3) (lv' := [(3, .int ((8 : Int32) + ((4 : Int32) * x1))), (0, va_rf (some h0)), (1, .int x1), (2, .int x2)]) hx hb d_Mo_entryFault_6 rfl hl (by decide) rfl (fun ls hl => ?_)
  refine r_aload_n X d_Mo_entryFault_7 rfl (lv_at hl 1 rfl) ?_
  obtain ⟨v1, hv, hf⟩ := mbind hf
  refine r_getf X G I (mfA_e hv) o_Mo_buffer k_834 (Or.inl rfl) d_Mo_entryFault_8 ?_
  refine lv_iload_n hx hb d_Mo_entryFault_11 rfl (lv_at hl 0 rfl) ?_
  obtain ⟨v2, hv, hf⟩ := mbind hf
  refine r_iald X G I hv d_Mo_entryFault_12 ?_
  refine lv_istore (i := 4) (lv' := [(4, .int v2), (3, .int ((8 : Int32) + ((4 : Int32) * x1))), (0, va_rf (some h0)), (1, .int x1), (2, .int x2)]) hx hb d_Mo_entryFault_13 hl (by decide) rfl (fun ls hl => ?_)
  refine r_aload_n X d_Mo_entryFault_15 rfl (lv_at hl 2 rfl) ?_
  obtain ⟨v3, hv, hf⟩ := mbind hf
  refine r_getf X G I (mfA_e hv) o_Mo_buffer k_834 (Or.inl rfl) d_Mo_entryFault_16 ?_
  refine lv_iload_n hx hb d_Mo_entryFault_19 rfl (lv_at hl 1 rfl) ?_
  refine lv_iconst (v := 1) hx hb d_Mo_entryFault_20 (by decide) ?_
  refine lv_iadd hx hb d_Mo_entryFault_21 ?_
  obtain ⟨v4, hv, hf⟩ := mbind hf
  refine r_iald X G I hv d_Mo_entryFault_22 ?_
  refine lv_istore (i := 5) (lv' := [(5, .int v4), (4, .int v2), (3, .int ((8 : Int32) + ((4 : Int32) * x1))), (0, va_rf (some h0)), (1, .int x1), (2, .int x2)]) hx hb d_Mo_entryFault_23 hl (by decide) rfl (fun ls hl => ?_)
  refine r_aload_n X d_Mo_entryFault_25 rfl (lv_at hl 3 rfl) ?_
  obtain ⟨v5, hv, hf⟩ := mbind hf
  refine r_getf X G I (mfA_e hv) o_Mo_buffer k_834 (Or.inl rfl) d_Mo_entryFault_26 ?_
  refine lv_iload_n hx hb d_Mo_entryFault_29 rfl (lv_at hl 2 rfl) ?_
  refine lv_iconst (v := 2) hx hb d_Mo_entryFault_30 (by decide) ?_
  refine lv_iadd hx hb d_Mo_entryFault_31 ?_
  obtain ⟨v6, hv, hf⟩ := mbind hf
  refine r_iald X G I hv d_Mo_entryFault_32 ?_
  refine lv_istore (i := 6) (lv' := [(6, .int v6), (5, .int v4), (4, .int v2), (3, .int ((8 : Int32) + ((4 : Int32) * x1))), (0, va_rf (some h0)), (1, .int x1), (2, .int x2)]) hx hb d_Mo_entryFault_33 hl (by decide) rfl (fun ls hl => ?_)
  refine lv_iconst (v := 0) hx hb d_Mo_entryFault_35 (by decide) ?_
  refine lv_istore (i := 7) (lv' := [(7, .int (0 : Int32)), (6, .int v6), (5, .int v4), (4, .int v2), (3, .int ((8 : Int32) + ((4 : Int32) * x1))), (0, va_rf (some h0)), (1, .int x1), (2, .int x2)]) hx hb d_Mo_entryFault_36 hl (by decide) rfl (fun ls hl => ?_)
  refine lv_iconst (v := 1) hx hb d_Mo_entryFault_38 (by decide) ?_
  refine lv_istore (i := 8) (lv' := [(8, .int (1 : Int32)), (7, .int (0 : Int32)), (6, .int v6), (5, .int v4), (4, .int v2), (3, .int ((8 : Int32) + ((4 : Int32) * x1))), (0, va_rf (some h0)), (1, .int x1), (2, .int x2)]) hx hb d_Mo_entryFault_39 hl (by decide) rfl (fun ls hl => ?_)
  refine lv_bipush (v := 8) hx hb d_Mo_entryFault_41 (by decide) ?_
  refine lv_istore (i := 9) (lv' := [(9, .int (8 : Int32)), (8, .int (1 : Int32)), (7, .int (0 : Int32)), (6, .int v6), (5, .int v4), (4, .int v2), (3, .int ((8 : Int32) + ((4 : Int32) * x1))), (0, va_rf (some h0)), (1, .int x1), (2, .int x2)]) hx hb d_Mo_entryFault_43 hl (by decide) rfl (fun ls hl => ?_)
  exact w_Mo_entryFault_45 X G I (fun ls x2 x3 x4 x5 x6 x7 x8 hf hl => w_Mo_entryFault_149 X G I hf hl) 4096 _ _ _ _ _ _ _ _ _ hf (lv_sub hl [7, 9, 6, 5, 4, 3, 2, 1, 0] rfl)

set_option maxHeartbeats 4000000 in
set_option maxRecDepth 100000 in
theorem c_Mo_entryFault {l : Launch} {D : va_G} {cA : Nat → ClassId} {dA z0 : Nat} {μ : mM} {h0 : Nat} {x1 : Int32} {x2 : Int32} {r : Int32} (hf : f_Mo_entryFault μ h0 x1 x2 = some r) : Met l y_Mo_entryFault (mW y_Mo_entryFault b_Mo_entryFault 14 (some .int)) rm_Mo_entryFault (va_Pc [.ref h0, .int x1, .int x2] (mPr D cA dA z0 μ)) (mQR (some (.int r))) 0 0 (fun _ => False) := by
  refine Met.ofW (cc := b_Mo_entryFault) (maxL := 14) (ret := (some .int)) (by decide) rfl ?_
  intro p e s m args below meth c s₁ B hml hv
  obtain ⟨rfl, G, hP⟩ := hv
  have X := mX.of B hml
  exact m_entry (lv := [(0, va_rf (some h0)), (1, .int x1), (2, .int x2)]) (Nat.le_of_ble_eq_true rfl) rfl (fun ls hl => w_Mo_entryFault X G (mI.start hP) hf hl)

abbrev rm_Mo_has : Room := { frames := 0, cells := 0, slots := 0, locals := 0 }
theorem h_Mo_has : mCV y_Mo_has b_Mo_has 4 (some .boolean) 1 := ⟨k_934, k_79, ⟨by decide, by decide, by decide +kernel⟩, k_933, k_29⟩
set_option maxHeartbeats 4000000 in
set_option maxRecDepth 100000 in
theorem w_Mo_has_46 {μ : mM} {h0 : Nat} {r : Int32} (X : mX p m meth c s args b_Mo_has 4 (some .boolean) "ColourLinkerModel") (G : mG D cA dA z0 s) (I : mI D cA z0 s μ s.heap [] s.heap.size) {ls : Array Slot} {x2 : Int32} (hf : f_Mo_has_46 μ h0 x2 = some r) (hl : lv_has ls 4 [(0, va_rf (some h0)), (2, .int x2)]) : W p l e rm_Mo_has s m args below meth c s.heap [] 0 0 (MQ below (mQR (some (.int r))) args s 0 0 (fun _ => False)) (F0 m 46 ls []) := by
  have hx := X.ex
  have hb := X.by_
  unfold f_Mo_has_46 at hf
  refine lv_iload_n hx hb d_Mo_has_46 rfl (lv_at hl 1 rfl) ?_
  obtain ⟨v5, hv, hf⟩ := mbind hf
  obtain ⟨hz0, hz⟩ := mz_e hv
  rw [hz0] at hf
  obtain rfl := Option.some.inj hf
  exact r_zretR X hz d_Mo_has_47

set_option maxHeartbeats 4000000 in
set_option maxRecDepth 100000 in
theorem w_Mo_has_39 {μ : mM} {h0 : Nat} {r : Int32} (X : mX p m meth c s args b_Mo_has 4 (some .boolean) "ColourLinkerModel") (G : mG D cA dA z0 s) (I : mI D cA z0 s μ s.heap [] s.heap.size) {k : Int32 → Int32 → Int32 → Option (Int32)} {kx46 : Int32 → Option (Int32)} (hk : ∀ (ls : Array Slot) (x1 : Int32) (x2 : Int32) (x3 : Int32), k x1 x2 x3 = some r → lv_has ls 4 [(0, va_rf (some h0)), (1, .int x1), (2, .int x2), (3, .int x3)] → W p l e rm_Mo_has s m args below meth c s.heap [] 0 0 (MQ below (mQR (some (.int r))) args s 0 0 (fun _ => False)) (F0 m 4 ls [])) (hkx46 : ∀ (ls : Array Slot) (x2 : Int32), kx46 x2 = some r → lv_has ls 4 [(0, va_rf (some h0)), (2, .int x2)] → W p l e rm_Mo_has s m args below meth c s.heap [] 0 0 (MQ below (mQR (some (.int r))) args s 0 0 (fun _ => False)) (F0 m 46 ls [])) {ls : Array Slot} {x1 : Int32} {x3 : Int32} {s0 : Int32} (hf : f_Mo_has_39 μ h0 k kx46 x1 x3 s0 = some r) (hl : lv_has ls 4 [(0, va_rf (some h0)), (1, .int x1), (3, .int x3)]) : W p l e rm_Mo_has s m args below meth c s.heap [] 0 0 (MQ below (mQR (some (.int r))) args s 0 0 (fun _ => False)) (F0 m 39 ls [.int s0]) := by
  have hx := X.ex
  have hb := X.by_
  unfold f_Mo_has_39 at hf
  refine lv_istore_n (i := 2) (lv' := [(2, .int s0), (0, va_rf (some h0)), (1, .int x1), (3, .int x3)]) hx hb d_Mo_has_39 rfl hl (by decide) rfl (fun ls hl => ?_)
  refine lv_iinc (i := 3) (k := 3) (v := (x3 + (1 : Int32))) (lv' := [(3, .int (x3 + (1 : Int32))), (2, .int s0), (0, va_rf (some h0)), (1, .int x1)]) hx hb d_Mo_has_40 hl rfl (congrArg (fun t => x3 + t) (by decide : Int32.ofInt (1) = (1 : Int32))) (by decide) rfl (fun ls hl => ?_)
  refine lv_goto (tgt := 4) hx hb d_Mo_has_43 (by decide) ?_
  exact hk _ _ _ _ hf (lv_sub hl [2, 3, 1, 0] rfl)

set_option maxHeartbeats 4000000 in
set_option maxRecDepth 100000 in
theorem w_Mo_has_34 {μ : mM} {h0 : Nat} {r : Int32} (X : mX p m meth c s args b_Mo_has 4 (some .boolean) "ColourLinkerModel") (G : mG D cA dA z0 s) (I : mI D cA z0 s μ s.heap [] s.heap.size) {k : Int32 → Int32 → Int32 → Option (Int32)} {kx46 : Int32 → Option (Int32)} (hk : ∀ (ls : Array Slot) (x1 : Int32) (x2 : Int32) (x3 : Int32), k x1 x2 x3 = some r → lv_has ls 4 [(0, va_rf (some h0)), (1, .int x1), (2, .int x2), (3, .int x3)] → W p l e rm_Mo_has s m args below meth c s.heap [] 0 0 (MQ below (mQR (some (.int r))) args s 0 0 (fun _ => False)) (F0 m 4 ls [])) (hkx46 : ∀ (ls : Array Slot) (x2 : Int32), kx46 x2 = some r → lv_has ls 4 [(0, va_rf (some h0)), (2, .int x2)] → W p l e rm_Mo_has s m args below meth c s.heap [] 0 0 (MQ below (mQR (some (.int r))) args s 0 0 (fun _ => False)) (F0 m 46 ls [])) {ls : Array Slot} {x1 : Int32} {x3 : Int32} (hf : f_Mo_has_34 μ h0 k kx46 x1 x3 = some r) (hl : lv_has ls 4 [(0, va_rf (some h0)), (1, .int x1), (3, .int x3)]) : W p l e rm_Mo_has s m args below meth c s.heap [] 0 0 (MQ below (mQR (some (.int r))) args s 0 0 (fun _ => False)) (F0 m 34 ls []) := by
  have hx := X.ex
  have hb := X.by_
  unfold f_Mo_has_34 at hf
  refine lv_iconst (v := 1) hx hb d_Mo_has_34 (by decide) ?_
  refine lv_goto (tgt := 39) hx hb d_Mo_has_35 (by decide) ?_
  exact w_Mo_has_39 X G I hk hkx46 hf hl

set_option maxHeartbeats 4000000 in
set_option maxRecDepth 100000 in
theorem w_Mo_has_4 {μ : mM} {h0 : Nat} {r : Int32} (X : mX p m meth c s args b_Mo_has 4 (some .boolean) "ColourLinkerModel") (G : mG D cA dA z0 s) (I : mI D cA z0 s μ s.heap [] s.heap.size) {kx46 : Int32 → Option (Int32)} (hkx46 : ∀ (ls : Array Slot) (x2 : Int32), kx46 x2 = some r → lv_has ls 4 [(0, va_rf (some h0)), (2, .int x2)] → W p l e rm_Mo_has s m args below meth c s.heap [] 0 0 (MQ below (mQR (some (.int r))) args s 0 0 (fun _ => False)) (F0 m 46 ls [])) : ∀ (n : Nat) (ls : Array Slot) (x1 : Int32) (x2 : Int32) (x3 : Int32), f_Mo_has_4 μ h0 kx46 n x1 x2 x3 = some r → lv_has ls 4 [(0, va_rf (some h0)), (1, .int x1), (2, .int x2), (3, .int x3)] → W p l e rm_Mo_has s m args below meth c s.heap [] 0 0 (MQ below (mQR (some (.int r))) args s 0 0 (fun _ => False)) (F0 m 4 ls []) := by
  have hx := X.ex
  have hb := X.by_
  intro n
  induction n with
  | zero => intro ls x1 x2 x3 hf hl; rw [f_Mo_has_4] at hf; cases hf
  | succ n ih =>
    intro ls x1 x2 x3 hf hl
    rw [f_Mo_has_4] at hf
    refine lv_iload_n hx hb d_Mo_has_4 rfl (lv_at hl 3 rfl) ?_
    refine r_aload_n X d_Mo_has_5 rfl (lv_at hl 0 rfl) ?_
    obtain ⟨v1, hv, hf⟩ := mbind hf
    refine r_getf X G I (mfA_e hv) o_Mo_buffer k_834 (Or.inl rfl) d_Mo_has_6 ?_
    refine lv_bipush (v := 6) hx hb d_Mo_has_9 (by decide) ?_
    obtain ⟨v2, hv, hf⟩ := mbind hf
    refine r_iald X G I hv d_Mo_has_11 ?_
    refine lv_icmp_ge (tgt := 46) hx hb d_Mo_has_12 (by decide) (fun hc => ?_) (fun hc => ?_)
    · have hf := mift hf hc
      exact hkx46 _ _ hf (lv_sub hl [0, 2] rfl)
    · have hf := miff hf hc
      refine lv_iload_n hx hb d_Mo_has_15 rfl (lv_at hl 2 rfl) ?_
      refine lv_if_ne (tgt := 34) hx hb d_Mo_has_16 (by decide) (fun hc => ?_) (fun hc => ?_)
      · have hf := miff hf hc
        exact w_Mo_has_34 X G I ih hkx46 hf (lv_sub hl [0, 1, 3] rfl)
      · have hf := mift hf hc
        refine r_aload_n X d_Mo_has_19 rfl (lv_at hl 0 rfl) ?_
        obtain ⟨v3, hv, hf⟩ := mbind hf
        refine r_getf X G I (mfA_e hv) o_Mo_buffer k_834 (Or.inl rfl) d_Mo_has_20 ?_
        refine lv_bipush (v := 8) hx hb d_Mo_has_23 (by decide) ?_
        refine lv_iconst (v := 4) hx hb d_Mo_has_25 (by decide) ?_
        refine lv_iload_n hx hb d_Mo_has_26 rfl (lv_at hl 3 rfl) ?_
        refine lv_imul hx hb d_Mo_has_27 ?_
        refine lv_iadd hx hb d_Mo_has_28 ?_
        obtain ⟨v4, hv, hf⟩ := mbind hf
        refine r_iald X G I hv d_Mo_has_29 ?_
        refine lv_iload_n hx hb d_Mo_has_30 rfl (lv_at hl 1 rfl) ?_
        refine lv_icmp_ne (tgt := 38) hx hb d_Mo_has_31 (by decide) (fun hc => ?_) (fun hc => ?_)
        · have hf := miff hf hc
          refine lv_iconst (v := 0) hx hb d_Mo_has_38 (by decide) ?_
          exact w_Mo_has_39 X G I ih hkx46 hf (lv_sub hl [0, 1, 3] rfl)
        · have hf := mift hf hc
          exact w_Mo_has_34 X G I ih hkx46 hf (lv_sub hl [0, 1, 3] rfl)

set_option maxHeartbeats 4000000 in
set_option maxRecDepth 100000 in
theorem w_Mo_has {μ : mM} {h0 : Nat} {r : Int32} (X : mX p m meth c s args b_Mo_has 4 (some .boolean) "ColourLinkerModel") (G : mG D cA dA z0 s) (I : mI D cA z0 s μ s.heap [] s.heap.size) {ls : Array Slot} {x1 : Int32} (hf : f_Mo_has μ h0 x1 = some r) (hl : lv_has ls 4 [(0, va_rf (some h0)), (1, .int x1)]) : W p l e rm_Mo_has s m args below meth c s.heap [] 0 0 (MQ below (mQR (some (.int r))) args s 0 0 (fun _ => False)) (F0 m 0 ls []) := by
  have hx := X.ex
  have hb := X.by_
  unfold f_Mo_has at hf
  refine lv_iconst (v := 0) hx hb d_Mo_has_0 (by decide) ?_
  refine lv_istore_n (i := 2) (lv' := [(2, .int (0 : Int32)), (0, va_rf (some h0)), (1, .int x1)]) hx hb d_Mo_has_1 rfl hl (by decide) rfl (fun ls hl => ?_)
  refine lv_iconst (v := 0) hx hb d_Mo_has_2 (by decide) ?_
  refine lv_istore_n (i := 3) (lv' := [(3, .int (0 : Int32)), (2, .int (0 : Int32)), (0, va_rf (some h0)), (1, .int x1)]) hx hb d_Mo_has_3 rfl hl (by decide) rfl (fun ls hl => ?_)
  exact w_Mo_has_4 X G I (fun ls x2 hf hl => w_Mo_has_46 X G I hf hl) 4096 _ _ _ _ hf (lv_sub hl [2, 3, 1, 0] rfl)

set_option maxHeartbeats 4000000 in
set_option maxRecDepth 100000 in
theorem c_Mo_has {l : Launch} {D : va_G} {cA : Nat → ClassId} {dA z0 : Nat} {μ : mM} {h0 : Nat} {x1 : Int32} {r : Int32} (hf : f_Mo_has μ h0 x1 = some r) : Met l y_Mo_has (mW y_Mo_has b_Mo_has 4 (some .boolean)) rm_Mo_has (va_Pc [.ref h0, .int x1] (mPr D cA dA z0 μ)) (mQR (some (.int r))) 0 0 (fun _ => False) := by
  refine Met.ofW (cc := b_Mo_has) (maxL := 4) (ret := (some .boolean)) (by decide) rfl ?_
  intro p e s m args below meth c s₁ B hml hv
  obtain ⟨rfl, G, hP⟩ := hv
  have X := mX.of B hml
  exact m_entry (lv := [(0, va_rf (some h0)), (1, .int x1)]) (Nat.le_of_ble_eq_true rfl) rfl (fun ls hl => w_Mo_has X G (mI.start hP) hf hl)

end WK
