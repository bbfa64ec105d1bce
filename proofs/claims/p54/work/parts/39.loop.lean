set_option maxHeartbeats 8000000 in
set_option maxRecDepth 100000 in
theorem law_loop {p : Program} {e : Env} {s : State} {m : MethodId} {below : List Frame} {meth : Method} {c : Code} (l : Launch) {b L : Nat} {xs : Nat → Int32} (hL : L ≤ 3072) (hx : p.tables.exec = Jvm.exec) (hb : c.code = code) (hr : meth.sig.returnType = ret) (hml : c.maxLocals = 4) (hown : s.vm.findClass RL = some m.cls) (hts : ∀ w ∈ wq, w.before #[Value.ref b] s = true) (hX : va_X b L xs s s.heap) (hbl : b < s.heap.size) (hlocks : meth.locks = false) {D : va_G} {c0 : Nat → ClassId} {Y1 Y2 : Nat → Option Nat} {o1 o2 : Nat} {adK adV : Nat → Nat} (hK : va_K D vwCl (tysOf c0) s) (hSO : SO (fun q : Nat => s.heap.size ≤ q) adK adV s s.heap) (hdis : ∀ q, pA Y1 q → pA Y2 q → False) (hU : uq Y2) (hy1 : Y1 o1 = some 9) (hA1 : ∀ q, pA Y1 q → s.heap.size ≤ q) (hy2 : Y2 o2 = some 10) (hA2 : ∀ q, pA Y2 q → s.heap.size ≤ q) : ∀ (n : Nat) (i : Int32) (ν2 : Nat → Nat) (H : Heap) (locs : List Loc) (ls : Array Slot), ((L : Int) + 6 - i.toInt).toNat < n → iv i 0 3078 → TI D vwCl (tysOf c0) (RTg (fun _ => 0)) Y1 H → TI D vwCl (tysOf c0) (RTg ν2) Y2 H → nuOK ν2 → va_S (fun q : Nat => s.heap.size ≤ q) s.heap H locs → lv_has ls 4 [(3, .int i), (2, .ref o2), (1, .ref o1), (0, .ref b)] → W p l e room_1 s m #[Value.ref b] below meth c H locs 188 7230 (lw_Z below #[Value.ref b] s) (F0 m 18 ls []) := by
  have hbA : ¬ (fun q : Nat => s.heap.size ≤ q) b := Nat.not_le.mpr hbl
  intro n
  induction n with
  | zero => intro i ν2 H locs ls hm; exact absurd hm (Nat.not_lt_zero _)
  | succ n ih =>
    intro i ν2 H locs ls hm hi0 hT1 hT2 hν hS hl
    refine lv_iload_n hx hb dL_law_18 rfl (lv_at hl 0 rfl) ?_
    refine lv_aload_n hx hb dL_law_19 rfl (lv_at hl 3 rfl) ?_
    refine va_slen hx hb hX hbl hbA hS dL_law_20 ?_
    refine lv_bipush (v := 6) hx hb dL_law_21 (by decide) ?_
    refine lv_isub hx hb dL_law_23 ?_
    refine lv_icmp_gt (tgt := 2025) hx hb dL_law_24 (by decide) (fun _ => law_fin l hL hx hb hr hml hown hts hX hbl hlocks hS) (fun h => ?_)
    have hiL : i.toInt + 6 ≤ (L : Int) := by
      have q := i_nlt h
      have e1 : (Int32.ofNat L).toInt = (L : Int) := Int32.toInt_ofNat_of_lt (by omega)
      have e2 : iv (Int32.ofNat L) 0 3072 := ⟨by omega, by omega⟩
      have e3 := iv_subE e2 (iv_c (x := (6 : Int32)) (k := 6) (by decide)) (by decide)
      have e4 : (6 : Int32).toInt = 6 := by decide
      omega
    have hi : iv i 0 3066 := ⟨hi0.1, by omega⟩
    have nxt : ∀ (ν2 : Nat → Nat) (H : Heap) (locs : List Loc), TI D vwCl (tysOf c0) (RTg (fun _ => 0)) Y1 H → TI D vwCl (tysOf c0) (RTg ν2) Y2 H → nuOK ν2 → va_S (fun q : Nat => s.heap.size ≤ q) s.heap H locs → W p l e room_1 s m #[Value.ref b] below meth c H locs 188 7230 (lw_Z below #[Value.ref b] s) (F0 m 2019 ls []) := by
      intro ν2 H locs hT1 hT2 hν hS
      obtain ⟨y, ey⟩ : ∃ y : Int32, y = i + 6 := ⟨_, rfl⟩
      have hy : iv y 6 3072 := by rw [ey]; exact iv_w (iv_add hi (iv_c (x := (6 : Int32)) (k := 6) (by decide)) (by decide)) (by decide)
      have sy : y.toInt = i.toInt + 6 := by rw [ey, iv_addE hi (iv_c (x := (6 : Int32)) (k := 6) (by decide)) (by decide)]; rfl
      refine lv_iinc (v := y) (lv' := [(3, .int y), (2, .ref o2), (1, .ref o1), (0, .ref b)]) hx hb dL_law_2019 hl (k := 0) rfl (by rw [ey]; rfl) (by decide) rfl (fun ls hl => ?_)
      refine lv_goto (tgt := 18) hx hb dL_law_2022 (by decide) ?_
      exact ih y ν2 H locs ls (by have := hi.1; omega) (iv_w hy (by decide)) hT1 hT2 hν hS hl
    refine lv_aload_n hx hb dL_law_27 rfl (lv_at hl 3 rfl) ?_
    refine lv_iload_n hx hb dL_law_28 rfl (lv_at hl 0 rfl) ?_
    refine va_sld (i := i) hx hb hX hbl hbA hS (law_in0 hi hiL) dL_law_29 ?_
    refine lv_bipush (v := 63) hx hb dL_law_30 (by decide) ?_
    refine lv_iand hx hb dL_law_32 ?_
    refine lv_topi (fun v ev => ?_)
    have hv : iv v 0 63 := by rw [ev]; exact iv_and (iv_w (iv_c (x := (63 : Int32)) (k := 63) (by decide)) (by decide))
    by_cases c0 : v.toInt = 0
    · refine lv_tableIn (off := 235) (tgt := 268) hx hb dL_law_33 (by omega) (by omega) (by rw [c0]; rfl) (by decide) ?_
      exact law_c0 l hL hx hb hr hml hown hts hX hbl hlocks hK hSO hdis hU hy1 hA1 hy2 hA2 hi hiL hT1 hT2 hν hS hl nxt
    by_cases c1 : v.toInt = 1
    · refine lv_tableIn (off := 298) (tgt := 331) hx hb dL_law_33 (by omega) (by omega) (by rw [c1]; rfl) (by decide) ?_
      exact law_c1 l hL hx hb hr hml hown hts hX hbl hlocks hK hSO hdis hU hy1 hA1 hy2 hA2 hi hiL hT1 hT2 hν hS hl nxt
    by_cases c2 : v.toInt = 2
    · refine lv_tableIn (off := 321) (tgt := 354) hx hb dL_law_33 (by omega) (by omega) (by rw [c2]; rfl) (by decide) ?_
      exact law_c2 l hL hx hb hr hml hown hts hX hbl hlocks hK hSO hdis hU hy1 hA1 hy2 hA2 hi hiL hT1 hT2 hν hS hl nxt
    by_cases c3 : v.toInt = 3
    · refine lv_tableIn (off := 334) (tgt := 367) hx hb dL_law_33 (by omega) (by omega) (by rw [c3]; rfl) (by decide) ?_
      exact law_c3 l hL hx hb hr hml hown hts hX hbl hlocks hK hSO hdis hU hy1 hA1 hy2 hA2 hi hiL hT1 hT2 hν hS hl nxt
    by_cases c4 : v.toInt = 4
    · refine lv_tableIn (off := 357) (tgt := 390) hx hb dL_law_33 (by omega) (by omega) (by rw [c4]; rfl) (by decide) ?_
      exact law_c4 l hL hx hb hr hml hown hts hX hbl hlocks hK hSO hdis hU hy1 hA1 hy2 hA2 hi hiL hT1 hT2 hν hS hl nxt
    by_cases c5 : v.toInt = 5
    · refine lv_tableIn (off := 390) (tgt := 423) hx hb dL_law_33 (by omega) (by omega) (by rw [c5]; rfl) (by decide) ?_
      exact law_c5 l hL hx hb hr hml hown hts hX hbl hlocks hK hSO hdis hU hy1 hA1 hy2 hA2 hi hiL hT1 hT2 hν hS hl nxt
    by_cases c6 : v.toInt = 6
    · refine lv_tableIn (off := 423) (tgt := 456) hx hb dL_law_33 (by omega) (by omega) (by rw [c6]; rfl) (by decide) ?_
      exact law_c6 l hL hx hb hr hml hown hts hX hbl hlocks hK hSO hdis hU hy1 hA1 hy2 hA2 hi hiL hT1 hT2 hν hS hl nxt
    by_cases c7 : v.toInt = 7
    · refine lv_tableIn (off := 456) (tgt := 489) hx hb dL_law_33 (by omega) (by omega) (by rw [c7]; rfl) (by decide) ?_
      exact law_c7 l hL hx hb hr hml hown hts hX hbl hlocks hK hSO hdis hU hy1 hA1 hy2 hA2 hi hiL hT1 hT2 hν hS hl nxt
    by_cases c8 : v.toInt = 8
    · refine lv_tableIn (off := 489) (tgt := 522) hx hb dL_law_33 (by omega) (by omega) (by rw [c8]; rfl) (by decide) ?_
      exact law_c8 l hL hx hb hr hml hown hts hX hbl hlocks hK hSO hdis hU hy1 hA1 hy2 hA2 hi hiL hT1 hT2 hν hS hl nxt
    by_cases c9 : v.toInt = 9
    · refine lv_tableIn (off := 532) (tgt := 565) hx hb dL_law_33 (by omega) (by omega) (by rw [c9]; rfl) (by decide) ?_
      exact law_c9 l hL hx hb hr hml hown hts hX hbl hlocks hK hSO hdis hU hy1 hA1 hy2 hA2 hi hiL hT1 hT2 hν hS hl nxt
    by_cases c10 : v.toInt = 10
    · refine lv_tableIn (off := 545) (tgt := 578) hx hb dL_law_33 (by omega) (by omega) (by rw [c10]; rfl) (by decide) ?_
      exact law_c10 l hL hx hb hr hml hown hts hX hbl hlocks hK hSO hdis hU hy1 hA1 hy2 hA2 hi hiL hT1 hT2 hν hS hl nxt
    by_cases c11 : v.toInt = 11
    · refine lv_tableIn (off := 558) (tgt := 591) hx hb dL_law_33 (by omega) (by omega) (by rw [c11]; rfl) (by decide) ?_
      exact law_c11 l hL hx hb hr hml hown hts hX hbl hlocks hK hSO hdis hU hy1 hA1 hy2 hA2 hi hiL hT1 hT2 hν hS hl nxt
    by_cases c12 : v.toInt = 12
    · refine lv_tableIn (off := 581) (tgt := 614) hx hb dL_law_33 (by omega) (by omega) (by rw [c12]; rfl) (by decide) ?_
      exact law_c12 l hL hx hb hr hml hown hts hX hbl hlocks hK hSO hdis hU hy1 hA1 hy2 hA2 hi hiL hT1 hT2 hν hS hl nxt
    by_cases c13 : v.toInt = 13
    · refine lv_tableIn (off := 594) (tgt := 627) hx hb dL_law_33 (by omega) (by omega) (by rw [c13]; rfl) (by decide) ?_
      exact law_c13 l hL hx hb hr hml hown hts hX hbl hlocks hK hSO hdis hU hy1 hA1 hy2 hA2 hi hiL hT1 hT2 hν hS hl nxt
    by_cases c14 : v.toInt = 14
    · refine lv_tableIn (off := 657) (tgt := 690) hx hb dL_law_33 (by omega) (by omega) (by rw [c14]; rfl) (by decide) ?_
      exact law_c14 l hL hx hb hr hml hown hts hX hbl hlocks hK hSO hdis hU hy1 hA1 hy2 hA2 hi hiL hT1 hT2 hν hS hl nxt
    by_cases c15 : v.toInt = 15
    · refine lv_tableIn (off := 680) (tgt := 713) hx hb dL_law_33 (by omega) (by omega) (by rw [c15]; rfl) (by decide) ?_
      exact law_c15 l hL hx hb hr hml hown hts hX hbl hlocks hK hSO hdis hU hy1 hA1 hy2 hA2 hi hiL hT1 hT2 hν hS hl nxt
    by_cases c16 : v.toInt = 16
    · refine lv_tableIn (off := 703) (tgt := 736) hx hb dL_law_33 (by omega) (by omega) (by rw [c16]; rfl) (by decide) ?_
      exact law_c16 l hL hx hb hr hml hown hts hX hbl hlocks hK hSO hdis hU hy1 hA1 hy2 hA2 hi hiL hT1 hT2 hν hS hl nxt
    by_cases c17 : v.toInt = 17
    · refine lv_tableIn (off := 766) (tgt := 799) hx hb dL_law_33 (by omega) (by omega) (by rw [c17]; rfl) (by decide) ?_
      exact law_c17 l hL hx hb hr hml hown hts hX hbl hlocks hK hSO hdis hU hy1 hA1 hy2 hA2 hi hiL hT1 hT2 hν hS hl nxt
    by_cases c18 : v.toInt = 18
    · refine lv_tableIn (off := 799) (tgt := 832) hx hb dL_law_33 (by omega) (by omega) (by rw [c18]; rfl) (by decide) ?_
      exact law_c18 l hL hx hb hr hml hown hts hX hbl hlocks hK hSO hdis hU hy1 hA1 hy2 hA2 hi hiL hT1 hT2 hν hS hl nxt
    by_cases c19 : v.toInt = 19
    · refine lv_tableIn (off := 832) (tgt := 865) hx hb dL_law_33 (by omega) (by omega) (by rw [c19]; rfl) (by decide) ?_
      exact law_c19 l hL hx hb hr hml hown hts hX hbl hlocks hK hSO hdis hU hy1 hA1 hy2 hA2 hi hiL hT1 hT2 hν hS hl nxt
    by_cases c20 : v.toInt = 20
    · refine lv_tableIn (off := 855) (tgt := 888) hx hb dL_law_33 (by omega) (by omega) (by rw [c20]; rfl) (by decide) ?_
      exact law_c20 l hL hx hb hr hml hown hts hX hbl hlocks hK hSO hdis hU hy1 hA1 hy2 hA2 hi hiL hT1 hT2 hν hS hl nxt
    by_cases c21 : v.toInt = 21
    · refine lv_tableIn (off := 868) (tgt := 901) hx hb dL_law_33 (by omega) (by omega) (by rw [c21]; rfl) (by decide) ?_
      exact law_c21 l hL hx hb hr hml hown hts hX hbl hlocks hK hSO hdis hU hy1 hA1 hy2 hA2 hi hiL hT1 hT2 hν hS hl nxt
    by_cases c22 : v.toInt = 22
    · refine lv_tableIn (off := 891) (tgt := 924) hx hb dL_law_33 (by omega) (by omega) (by rw [c22]; rfl) (by decide) ?_
      exact law_c22 l hL hx hb hr hml hown hts hX hbl hlocks hK hSO hdis hU hy1 hA1 hy2 hA2 hi hiL hT1 hT2 hν hS hl nxt
    by_cases c23 : v.toInt = 23
    · refine lv_tableIn (off := 934) (tgt := 967) hx hb dL_law_33 (by omega) (by omega) (by rw [c23]; rfl) (by decide) ?_
      exact law_c23 l hL hx hb hr hml hown hts hX hbl hlocks hK hSO hdis hU hy1 hA1 hy2 hA2 hi hiL hT1 hT2 hν hS hl nxt
    by_cases c24 : v.toInt = 24
    · refine lv_tableIn (off := 967) (tgt := 1000) hx hb dL_law_33 (by omega) (by omega) (by rw [c24]; rfl) (by decide) ?_
      exact law_c24 l hL hx hb hr hml hown hts hX hbl hlocks hK hSO hdis hU hy1 hA1 hy2 hA2 hi hiL hT1 hT2 hν hS hl nxt
    by_cases c25 : v.toInt = 25
    · refine lv_tableIn (off := 1000) (tgt := 1033) hx hb dL_law_33 (by omega) (by omega) (by rw [c25]; rfl) (by decide) ?_
      exact law_c25 l hL hx hb hr hml hown hts hX hbl hlocks hK hSO hdis hU hy1 hA1 hy2 hA2 hi hiL hT1 hT2 hν hS hl nxt
    by_cases c26 : v.toInt = 26
    · refine lv_tableIn (off := 1023) (tgt := 1056) hx hb dL_law_33 (by omega) (by omega) (by rw [c26]; rfl) (by decide) ?_
      exact law_c26 l hL hx hb hr hml hown hts hX hbl hlocks hK hSO hdis hU hy1 hA1 hy2 hA2 hi hiL hT1 hT2 hν hS hl nxt
    by_cases c27 : v.toInt = 27
    · refine lv_tableIn (off := 1036) (tgt := 1069) hx hb dL_law_33 (by omega) (by omega) (by rw [c27]; rfl) (by decide) ?_
      exact law_c27 l hL hx hb hr hml hown hts hX hbl hlocks hK hSO hdis hU hy1 hA1 hy2 hA2 hi hiL hT1 hT2 hν hS hl nxt
    by_cases c28 : v.toInt = 28
    · refine lv_tableIn (off := 1069) (tgt := 1102) hx hb dL_law_33 (by omega) (by omega) (by rw [c28]; rfl) (by decide) ?_
      exact law_c28 l hL hx hb hr hml hown hts hX hbl hlocks hK hSO hdis hU hy1 hA1 hy2 hA2 hi hiL hT1 hT2 hν hS hl nxt
    by_cases c29 : v.toInt = 29
    · refine lv_tableIn (off := 1138) (tgt := 1171) hx hb dL_law_33 (by omega) (by omega) (by rw [c29]; rfl) (by decide) ?_
      exact law_c29 l hL hx hb hr hml hown hts hX hbl hlocks hK hSO hdis hU hy1 hA1 hy2 hA2 hi hiL hT1 hT2 hν hS hl nxt
    by_cases c30 : v.toInt = 30
    · refine lv_tableIn (off := 1161) (tgt := 1194) hx hb dL_law_33 (by omega) (by omega) (by rw [c30]; rfl) (by decide) ?_
      exact law_c30 l hL hx hb hr hml hown hts hX hbl hlocks hK hSO hdis hU hy1 hA1 hy2 hA2 hi hiL hT1 hT2 hν hS hl nxt
    by_cases c31 : v.toInt = 31
    · refine lv_tableIn (off := 1194) (tgt := 1227) hx hb dL_law_33 (by omega) (by omega) (by rw [c31]; rfl) (by decide) ?_
      exact law_c31 l hL hx hb hr hml hown hts hX hbl hlocks hK hSO hdis hU hy1 hA1 hy2 hA2 hi hiL hT1 hT2 hν hS hl nxt
    by_cases c32 : v.toInt = 32
    · refine lv_tableIn (off := 1227) (tgt := 1260) hx hb dL_law_33 (by omega) (by omega) (by rw [c32]; rfl) (by decide) ?_
      exact law_c32 l hL hx hb hr hml hown hts hX hbl hlocks hK hSO hdis hU hy1 hA1 hy2 hA2 hi hiL hT1 hT2 hν hS hl nxt
    by_cases c33 : v.toInt = 33
    · refine lv_tableIn (off := 1250) (tgt := 1283) hx hb dL_law_33 (by omega) (by omega) (by rw [c33]; rfl) (by decide) ?_
      exact law_c33 l hL hx hb hr hml hown hts hX hbl hlocks hK hSO hdis hU hy1 hA1 hy2 hA2 hi hiL hT1 hT2 hν hS hl nxt
    by_cases c34 : v.toInt = 34
    · refine lv_tableIn (off := 1273) (tgt := 1306) hx hb dL_law_33 (by omega) (by omega) (by rw [c34]; rfl) (by decide) ?_
      exact law_c34 l hL hx hb hr hml hown hts hX hbl hlocks hK hSO hdis hU hy1 hA1 hy2 hA2 hi hiL hT1 hT2 hν hS hl nxt
    by_cases c35 : v.toInt = 35
    · refine lv_tableIn (off := 1306) (tgt := 1339) hx hb dL_law_33 (by omega) (by omega) (by rw [c35]; rfl) (by decide) ?_
      exact law_c35 l hL hx hb hr hml hown hts hX hbl hlocks hK hSO hdis hU hy1 hA1 hy2 hA2 hi hiL hT1 hT2 hν hS hl nxt
    by_cases c36 : v.toInt = 36
    · refine lv_tableIn (off := 1349) (tgt := 1382) hx hb dL_law_33 (by omega) (by omega) (by rw [c36]; rfl) (by decide) ?_
      exact law_c36 l hL hx hb hr hml hown hts hX hbl hlocks hK hSO hdis hU hy1 hA1 hy2 hA2 hi hiL hT1 hT2 hν hS hl nxt
    by_cases c37 : v.toInt = 37
    · refine lv_tableIn (off := 1382) (tgt := 1415) hx hb dL_law_33 (by omega) (by omega) (by rw [c37]; rfl) (by decide) ?_
      exact law_c37 l hL hx hb hr hml hown hts hX hbl hlocks hK hSO hdis hU hy1 hA1 hy2 hA2 hi hiL hT1 hT2 hν hS hl nxt
    by_cases c38 : v.toInt = 38
    · refine lv_tableIn (off := 1415) (tgt := 1448) hx hb dL_law_33 (by omega) (by omega) (by rw [c38]; rfl) (by decide) ?_
      exact law_c38 l hL hx hb hr hml hown hts hX hbl hlocks hK hSO hdis hU hy1 hA1 hy2 hA2 hi hiL hT1 hT2 hν hS hl nxt
    by_cases c39 : v.toInt = 39
    · refine lv_tableIn (off := 1448) (tgt := 1481) hx hb dL_law_33 (by omega) (by omega) (by rw [c39]; rfl) (by decide) ?_
      exact law_c39 l hL hx hb hr hml hown hts hX hbl hlocks hK hSO hdis hU hy1 hA1 hy2 hA2 hi hiL hT1 hT2 hν hS hl nxt
    by_cases c40 : v.toInt = 40
    · refine lv_tableIn (off := 1481) (tgt := 1514) hx hb dL_law_33 (by omega) (by omega) (by rw [c40]; rfl) (by decide) ?_
      exact law_c40 l hL hx hb hr hml hown hts hX hbl hlocks hK hSO hdis hU hy1 hA1 hy2 hA2 hi hiL hT1 hT2 hν hS hl nxt
    by_cases c41 : v.toInt = 41
    · refine lv_tableIn (off := 1514) (tgt := 1547) hx hb dL_law_33 (by omega) (by omega) (by rw [c41]; rfl) (by decide) ?_
      exact law_c41 l hL hx hb hr hml hown hts hX hbl hlocks hK hSO hdis hU hy1 hA1 hy2 hA2 hi hiL hT1 hT2 hν hS hl nxt
    by_cases c42 : v.toInt = 42
    · refine lv_tableIn (off := 1537) (tgt := 1570) hx hb dL_law_33 (by omega) (by omega) (by rw [c42]; rfl) (by decide) ?_
      exact law_c42 l hL hx hb hr hml hown hts hX hbl hlocks hK hSO hdis hU hy1 hA1 hy2 hA2 hi hiL hT1 hT2 hν hS hl nxt
    by_cases c43 : v.toInt = 43
    · refine lv_tableIn (off := 1560) (tgt := 1593) hx hb dL_law_33 (by omega) (by omega) (by rw [c43]; rfl) (by decide) ?_
      exact law_c43 l hL hx hb hr hml hown hts hX hbl hlocks hK hSO hdis hU hy1 hA1 hy2 hA2 hi hiL hT1 hT2 hν hS hl nxt
    by_cases c44 : v.toInt = 44
    · refine lv_tableIn (off := 1593) (tgt := 1626) hx hb dL_law_33 (by omega) (by omega) (by rw [c44]; rfl) (by decide) ?_
      exact law_c44 l hL hx hb hr hml hown hts hX hbl hlocks hK hSO hdis hU hy1 hA1 hy2 hA2 hi hiL hT1 hT2 hν hS hl nxt
    by_cases c45 : v.toInt = 45
    · refine lv_tableIn (off := 1636) (tgt := 1669) hx hb dL_law_33 (by omega) (by omega) (by rw [c45]; rfl) (by decide) ?_
      exact law_c45 l hL hx hb hr hml hown hts hX hbl hlocks hK hSO hdis hU hy1 hA1 hy2 hA2 hi hiL hT1 hT2 hν hS hl nxt
    by_cases c46 : v.toInt = 46
    · refine lv_tableIn (off := 1649) (tgt := 1682) hx hb dL_law_33 (by omega) (by omega) (by rw [c46]; rfl) (by decide) ?_
      exact law_c46 l hL hx hb hr hml hown hts hX hbl hlocks hK hSO hdis hU hy1 hA1 hy2 hA2 hi hiL hT1 hT2 hν hS hl nxt
    by_cases c47 : v.toInt = 47
    · refine lv_tableIn (off := 1682) (tgt := 1715) hx hb dL_law_33 (by omega) (by omega) (by rw [c47]; rfl) (by decide) ?_
      exact law_c47 l hL hx hb hr hml hown hts hX hbl hlocks hK hSO hdis hU hy1 hA1 hy2 hA2 hi hiL hT1 hT2 hν hS hl nxt
    by_cases c48 : v.toInt = 48
    · refine lv_tableIn (off := 1715) (tgt := 1748) hx hb dL_law_33 (by omega) (by omega) (by rw [c48]; rfl) (by decide) ?_
      exact law_c48 l hL hx hb hr hml hown hts hX hbl hlocks hK hSO hdis hU hy1 hA1 hy2 hA2 hi hiL hT1 hT2 hν hS hl nxt
    by_cases c49 : v.toInt = 49
    · refine lv_tableIn (off := 1738) (tgt := 1771) hx hb dL_law_33 (by omega) (by omega) (by rw [c49]; rfl) (by decide) ?_
      exact law_c49 l hL hx hb hr hml hown hts hX hbl hlocks hK hSO hdis hU hy1 hA1 hy2 hA2 hi hiL hT1 hT2 hν hS hl nxt
    by_cases c50 : v.toInt = 50
    · refine lv_tableIn (off := 1761) (tgt := 1794) hx hb dL_law_33 (by omega) (by omega) (by rw [c50]; rfl) (by decide) ?_
      exact law_c50 l hL hx hb hr hml hown hts hX hbl hlocks hK hSO hdis hU hy1 hA1 hy2 hA2 hi hiL hT1 hT2 hν hS hl nxt
    by_cases c51 : v.toInt = 51
    · refine lv_tableIn (off := 1784) (tgt := 1817) hx hb dL_law_33 (by omega) (by omega) (by rw [c51]; rfl) (by decide) ?_
      exact law_c51 l hL hx hb hr hml hown hts hX hbl hlocks hK hSO hdis hU hy1 hA1 hy2 hA2 hi hiL hT1 hT2 hν hS hl nxt
    by_cases c52 : v.toInt = 52
    · refine lv_tableIn (off := 1807) (tgt := 1840) hx hb dL_law_33 (by omega) (by omega) (by rw [c52]; rfl) (by decide) ?_
      exact law_c52 l hL hx hb hr hml hown hts hX hbl hlocks hK hSO hdis hU hy1 hA1 hy2 hA2 hi hiL hT1 hT2 hν hS hl nxt
    by_cases c53 : v.toInt = 53
    · refine lv_tableIn (off := 1850) (tgt := 1883) hx hb dL_law_33 (by omega) (by omega) (by rw [c53]; rfl) (by decide) ?_
      exact law_c53 l hL hx hb hr hml hown hts hX hbl hlocks hK hSO hdis hU hy1 hA1 hy2 hA2 hi hiL hT1 hT2 hν hS hl nxt
    by_cases c54 : v.toInt = 54
    · refine lv_tableIn (off := 1923) (tgt := 1956) hx hb dL_law_33 (by omega) (by omega) (by rw [c54]; rfl) (by decide) ?_
      exact law_c54 l hL hx hb hr hml hown hts hX hbl hlocks hK hSO hdis hU hy1 hA1 hy2 hA2 hi hiL hT1 hT2 hν hS hl nxt
    refine lv_tableOut (tgt := 2019) hx hb dL_law_33 (by have a1 := hv.1; have a2 := hv.2; omega) (by decide) ?_
    exact nxt ν2 H locs hT1 hT2 hν hS
