theorem dJ0_length_8abf5_0 : decode cJ0_length_8abf5 0 = .ok (.aload_n 0, 1) := by decide +kernel
theorem dJ0_length_8abf5_1 : decode cJ0_length_8abf5 1 = .ok (.getfield 9, 3) := by decide +kernel
theorem dJ0_length_8abf5_4 : decode cJ0_length_8abf5 4 = .ok (.arraylength, 1) := by decide +kernel
theorem dJ0_length_8abf5_5 : decode cJ0_length_8abf5 5 = .ok (.aload_n 0, 1) := by decide +kernel
theorem dJ0_length_8abf5_6 : decode cJ0_length_8abf5 6 = .ok (.invokevirtual 335, 3) := by decide +kernel
theorem dJ0_length_8abf5_9 : decode cJ0_length_8abf5 9 = .ok (.ishr, 1) := by decide +kernel
theorem dJ0_length_8abf5_10 : decode cJ0_length_8abf5 10 = .ok (.ireturn, 1) := by decide +kernel
theorem dJ0_charAt_5068e_0 : decode cJ0_charAt_5068e 0 = .ok (.aload_n 0, 1) := by decide +kernel
theorem dJ0_charAt_5068e_1 : decode cJ0_charAt_5068e 1 = .ok (.invokevirtual 492, 3) := by decide +kernel
theorem dJ0_charAt_5068e_4 : decode cJ0_charAt_5068e 4 = .ok (.ifCond .eq 12, 3) := by decide +kernel
theorem dJ0_charAt_5068e_7 : decode cJ0_charAt_5068e 7 = .ok (.aload_n 0, 1) := by decide +kernel
theorem dJ0_charAt_5068e_8 : decode cJ0_charAt_5068e 8 = .ok (.getfield 9, 3) := by decide +kernel
theorem dJ0_charAt_5068e_11 : decode cJ0_charAt_5068e 11 = .ok (.iload_n 1, 1) := by decide +kernel
theorem dJ0_charAt_5068e_12 : decode cJ0_charAt_5068e 12 = .ok (.invokestatic 495, 3) := by decide +kernel
theorem dJ0_charAt_5068e_15 : decode cJ0_charAt_5068e 15 = .ok (.ireturn, 1) := by decide +kernel
theorem dJ0_coder_7d493_0 : decode cJ0_coder_7d493 0 = .ok (.getstatic 38, 3) := by decide +kernel
theorem dJ0_coder_7d493_3 : decode cJ0_coder_7d493 3 = .ok (.ifCond .eq 10, 3) := by decide +kernel
theorem dJ0_coder_7d493_6 : decode cJ0_coder_7d493 6 = .ok (.aload_n 0, 1) := by decide +kernel
theorem dJ0_coder_7d493_7 : decode cJ0_coder_7d493 7 = .ok (.getfield 15, 3) := by decide +kernel
theorem dJ0_coder_7d493_10 : decode cJ0_coder_7d493 10 = .ok (.goto 4, 3) := by decide +kernel
theorem dJ0_coder_7d493_14 : decode cJ0_coder_7d493 14 = .ok (.ireturn, 1) := by decide +kernel
theorem dJ0_isLatin1_aae02_0 : decode cJ0_isLatin1_aae02 0 = .ok (.getstatic 38, 3) := by decide +kernel
theorem dJ0_isLatin1_aae02_3 : decode cJ0_isLatin1_aae02 3 = .ok (.ifCond .eq 14, 3) := by decide +kernel
theorem dJ0_isLatin1_aae02_6 : decode cJ0_isLatin1_aae02 6 = .ok (.aload_n 0, 1) := by decide +kernel
theorem dJ0_isLatin1_aae02_7 : decode cJ0_isLatin1_aae02 7 = .ok (.getfield 15, 3) := by decide +kernel
theorem dJ0_isLatin1_aae02_10 : decode cJ0_isLatin1_aae02 10 = .ok (.ifCond .ne 7, 3) := by decide +kernel
theorem dJ0_isLatin1_aae02_13 : decode cJ0_isLatin1_aae02 13 = .ok (.iconst 1, 1) := by decide +kernel
theorem dJ0_isLatin1_aae02_14 : decode cJ0_isLatin1_aae02 14 = .ok (.goto 4, 3) := by decide +kernel
theorem dJ0_isLatin1_aae02_18 : decode cJ0_isLatin1_aae02 18 = .ok (.ireturn, 1) := by decide +kernel
theorem dJ0_checkIndex_df160_0 : decode cJ0_checkIndex_df160 0 = .ok (.iload_n 0, 1) := by decide +kernel
theorem dJ0_checkIndex_df160_1 : decode cJ0_checkIndex_df160 1 = .ok (.iload_n 1, 1) := by decide +kernel
theorem dJ0_checkIndex_df160_2 : decode cJ0_checkIndex_df160 2 = .ok (.getstatic 1053, 3) := by decide +kernel
theorem dJ0_checkIndex_df160_5 : decode cJ0_checkIndex_df160 5 = .ok (.invokestatic 1059, 3) := by decide +kernel
theorem dJ0_checkIndex_df160_8 : decode cJ0_checkIndex_df160 8 = .ok (.pop, 1) := by decide +kernel
theorem dJ0_checkIndex_df160_9 : decode cJ0_checkIndex_df160 9 = .ok (.return_, 1) := by decide +kernel
theorem dJ1_charAt_3b067_0 : decode cJ1_charAt_3b067 0 = .ok (.iload_n 1, 1) := by decide +kernel
theorem dJ1_charAt_3b067_1 : decode cJ1_charAt_3b067 1 = .ok (.aload_n 0, 1) := by decide +kernel
theorem dJ1_charAt_3b067_2 : decode cJ1_charAt_3b067 2 = .ok (.arraylength, 1) := by decide +kernel
theorem dJ1_charAt_3b067_3 : decode cJ1_charAt_3b067 3 = .ok (.invokestatic 9, 3) := by decide +kernel
theorem dJ1_charAt_3b067_6 : decode cJ1_charAt_3b067 6 = .ok (.aload_n 0, 1) := by decide +kernel
theorem dJ1_charAt_3b067_7 : decode cJ1_charAt_3b067 7 = .ok (.iload_n 1, 1) := by decide +kernel
theorem dJ1_charAt_3b067_8 : decode cJ1_charAt_3b067 8 = .ok (.baload, 1) := by decide +kernel
theorem dJ1_charAt_3b067_9 : decode cJ1_charAt_3b067 9 = .ok (.sipush 255, 3) := by decide +kernel
theorem dJ1_charAt_3b067_12 : decode cJ1_charAt_3b067 12 = .ok (.iand, 1) := by decide +kernel
theorem dJ1_charAt_3b067_13 : decode cJ1_charAt_3b067 13 = .ok (.i2c, 1) := by decide +kernel
theorem dJ1_charAt_3b067_14 : decode cJ1_charAt_3b067 14 = .ok (.ireturn, 1) := by decide +kernel
theorem dJ3_checkIndex_8e157_0 : decode cJ3_checkIndex_8e157 0 = .ok (.iload_n 0, 1) := by decide +kernel
theorem dJ3_checkIndex_8e157_1 : decode cJ3_checkIndex_8e157 1 = .ok (.ifCond .lt 8, 3) := by decide +kernel
theorem dJ3_checkIndex_8e157_4 : decode cJ3_checkIndex_8e157 4 = .ok (.iload_n 0, 1) := by decide +kernel
theorem dJ3_checkIndex_8e157_5 : decode cJ3_checkIndex_8e157 5 = .ok (.iload_n 1, 1) := by decide +kernel
theorem dJ3_checkIndex_8e157_6 : decode cJ3_checkIndex_8e157 6 = .ok (.if_icmp .lt 10, 3) := by decide +kernel
theorem dJ3_checkIndex_8e157_16 : decode cJ3_checkIndex_8e157 16 = .ok (.iload_n 0, 1) := by decide +kernel
theorem dJ3_checkIndex_8e157_17 : decode cJ3_checkIndex_8e157 17 = .ok (.ireturn, 1) := by decide +kernel
theorem good_SS {own : String} {idx : Nat} {y : MethodName} {b : ByteArray} {n : Nat} {r : Option FieldType} (h1 : Cond.methodLink own idx y ∈ wq) (h2 : Cond.static y ∈ wq) (h4 : Cond.initialized y.cls ∈ wq) (h5 : Cond.code y b n r ∈ wq) : GoodIn wq (va_wsS own idx y (wz y b n r)) := by
  intro w hw
  rcases List.mem_append.mp hw with e | e
  · simp only [List.mem_cons, List.not_mem_nil, or_false] at e
    rcases e with e | e | e <;> subst e
    · exact wz_one h1
    · exact wz_one h2
    · exact wz_one h4
  · exact wz_good h5 w e
def lenS : List Nat := [4, 5, 3, 4, 4, 4, 4, 6, 5, 5, 6, 3, 6, 5, 5, 4, 5, 3, 5, 4, 4, 4, 6, 4, 6, 5]
def bytS : List (List Int32) := [[116, 111, 119, 110], [115, 116, 101, 112, 115], [108, 97, 119], [111, 118, 101, 114], [116, 105, 101, 115], [103, 111, 101, 115], [119, 101, 108, 108], [115, 104, 97, 114, 101, 100], [98, 117, 114, 110, 116], [108, 101, 97, 115, 116], [112, 101, 114, 115, 111, 110], [104, 97, 115], [98, 114, 105, 110, 103, 115], [116, 105, 114, 101, 115], [119, 111, 114, 116, 104], [101, 97, 116, 115], [100, 117, 108, 108, 115], [101, 97, 116], [109, 97, 116, 99, 104], [119, 111, 114, 107], [98, 101, 115, 116], [104, 105, 100, 101], [108, 101, 97, 103, 117, 101], [115, 101, 101, 115], [119, 105, 116, 104, 105, 110], [102, 111, 117, 110, 100]]
def litL : List (String × Nat × String × Nat) := [(RX6, 57, "town", 0), (RX6, 63, "steps", 1), (RX6, 71, "law", 2), (RX6, 135, "over", 3), (RX6, 141, "ties", 4), (RX6, 145, "goes", 5), (RX6, 159, "well", 6), (RX6, 161, "shared", 7), (RX6, 163, "burnt", 8), (RX6, 152, "least", 9), (RX6, 80, "person", 10), (RX6, 177, "has", 11), (RX6, 183, "brings", 12), (RX6, 187, "tires", 13), (RX6, 191, "worth", 14), (RX6, 195, "eats", 15), (RX6, 199, "dulls", 16), (RX6, 207, "eat", 17), (RX6, 212, "match", 18), (RX6, 214, "work", 19), (RX6, 216, "best", 20), (RX6, 218, "hide", 21), (RX6, 223, "league", 22), (RX6, 85, "sees", 23), (RX6, 225, "within", 24), (RX6, 90, "found", 25), (RX10, 252, "town", 0), (RX10, 254, "steps", 1), (RX10, 235, "law", 2), (RX10, 237, "person", 10), (RX10, 239, "sees", 23), (RX10, 241, "found", 25), (RX10, 191, "over", 3), (RX10, 197, "ties", 4), (RX10, 199, "goes", 5), (RX10, 185, "well", 6), (RX10, 187, "shared", 7), (RX10, 189, "burnt", 8), (RX10, 204, "least", 9), (RX10, 218, "has", 11), (RX10, 220, "brings", 12), (RX10, 222, "tires", 13), (RX10, 224, "worth", 14), (RX10, 226, "eats", 15), (RX10, 228, "dulls", 16), (RX10, 206, "eat", 17), (RX10, 208, "match", 18), (RX10, 210, "league", 22), (RX10, 212, "hide", 21), (RX10, 214, "work", 19), (RX10, 216, "best", 20), (RX10, 233, "within", 24)]
def SO (A : Nat → Prop) (adK adV : Nat → Nat) (U : State) (H : Heap) : Prop := vk_S 26 lenS bytS adK adV A U H ∧ va_Z "java/lang/String" "COMPACT_STRINGS" "Z" (.int 1) A U H ∧ (∃ v : Value, (v = .null ∨ ∃ a, v = .ref a) ∧ va_Z "jdk/internal/util/Preconditions" "SIOOBE_FORMATTER" "Ljava/util/function/BiFunction;" v A U H) ∧ ∀ w ∈ litL, vk_R w.1 w.2.1 w.2.2.1 (adK w.2.2.2) U
section STRS
variable {A : Nat → Prop} {adK adV : Nat → Nat} {s U : State} {H H1 : Heap}
theorem SO.warm (hW : s.WarmedH U.vm) (h : SO A adK adV s H) : SO A adK adV U H := by
  obtain ⟨h1, h2, ⟨v, h3, h4⟩, h5⟩ := h
  exact ⟨vk_S.moved hW.alike h1, va_Z.moved hW.alike h2, ⟨v, h3, va_Z.moved hW.alike h4⟩, fun w hw => vk_R.warm hW (h5 w hw)⟩
theorem SO.same (hv : U.vm = s.vm) (h : SO A adK adV s H) : SO A adK adV U H := by
  obtain ⟨h1, h2, ⟨v, h3, h4⟩, h5⟩ := h
  have ha : s.vm.Alike U.vm := by rw [hv]; exact Vm.Alike.refl _
  exact ⟨vk_S.moved ha h1, va_Z.moved ha h2, ⟨v, h3, va_Z.moved ha h4⟩, fun w hw => vk_R.same hv (h5 w hw)⟩
theorem SO.kept (h : SO A adK adV U H) (hq : ∀ a : Nat, a < H.size → ¬ A a → H1[a]? = H[a]?) : SO A adK adV U H1 := by
  obtain ⟨h1, h2, ⟨v, h3, h4⟩, h5⟩ := h
  exact ⟨vk_S.kept h1 hq, va_Z.kept h2 hq, ⟨v, h3, va_Z.kept h4 hq⟩, h5⟩
end STRS
abbrev TPs (D : va_G) (tys : List (ClassId × FieldType)) (Y : Nat → Option Nat) (adK adV : Nat → Nat) (H : Heap) (av : List Value) : Array Value → State → Prop := va_Pc av (fun U => U.heap = H ∧ va_K D vwCl tys U ∧ SO (pA Y) adK adV U H)
section TPSS
variable {D : va_G} {tys : List (ClassId × FieldType)} {RT : Nat → tsp} {Y : Nat → Option Nat} {adK adV : Nat → Nat} {H : Heap} {s : State} {ws : List Nat} {locs : List Loc} {a r : Nat}
theorem ts_blind {av : List Value} : FrameBlind (TPs D tys Y adK adV H av) := fun a U g mk q => ⟨q.1, q.2.1, va_K.moved (u := U) (U := U.calling g mk a) (Vm.Alike.refl U.vm) q.2.2.1, SO.same (s := U) rfl q.2.2.2⟩
theorem ts_at (hSO : SO (pA Y) adK adV s s.heap) (hS : va_S (pW Y ws) s.heap H locs) : SO (pA Y) adK adV s H := hSO.kept (fun a h1 h2 => hS.2.1 a h1 (fun z => h2 (pW_pA z)))
theorem ts_preS {As : List Value} (hK : va_K D vwCl tys s) (hSO : SO (pA Y) adK adV s s.heap) (hS : va_S (pW Y ws) s.heap H locs) : PreS s H (TPs D tys Y adK adV H As) As := ⟨ts_blind, fun _ hU hW => ⟨rfl, hU, va_K.moved hW.alike hK, (ts_at hSO hS).warm hW⟩⟩
theorem ts_preV {As : List Value} (hK : va_K D vwCl tys s) (hSO : SO (pA Y) adK adV s s.heap) (hS : va_S (pW Y ws) s.heap H locs) (hT : TI D vwCl tys RT Y H) (ha : Y a = some r) {ci : Nat} {fss : List tv} {P : List Value → Prop} (hR : RT r = .inl (ci, fss, P)) {C : String} {T : u_T} {N : Nat} (hc : vwCl[ci]? = some (C, T, N)) : PreV s H C a (TPs D tys Y adK adV H (.ref a :: As)) As := ⟨ts_blind, ti_recv hK hT ha hR hc, fun _ hU hW => ⟨rfl, hU, va_K.moved hW.alike hK, (ts_at hSO hS).warm hW⟩⟩
theorem ts_preK {As : List Value} {i : Nat} (hK : va_K D vwCl tys s) (hSO : SO (pA Y) adK adV s s.heap) (hS : va_S (pW Y ws) s.heap H locs) (hi : i < 26) : PreV s H "java/lang/String" (adK i) (TPs D tys Y adK adV H (.ref (adK i) :: As)) As := ⟨ts_blind, by
    obtain ⟨cell, h1, h2, h3, -⟩ := ((ts_at hSO hS).1.1 i hi).1
    exact ⟨cell, h1, h2, h3⟩, fun _ hU hW => ⟨rfl, hU, va_K.moved hW.alike hK, (ts_at hSO hS).warm hW⟩⟩
theorem ts_wide (hS : va_S (pW Y ws) s.heap H locs) : va_S (pA Y) s.heap H locs := ⟨hS.1, fun q h1 h2 => hS.2.1 q h1 (fun z => h2 (pW_pA z)), fun q hq => pW_pA (hS.2.2 q hq)⟩
end TPSS
theorem lenS_lt : ∀ i : Nat, i < 26 → lenS.getD i 0 < 11 := by decide
set_option maxHeartbeats 4000000 in
theorem t_coder (l : Launch) {D : va_G} {c0 : Nat → ClassId} {Y : Nat → Option Nat} {adK adV : Nat → Nat} {H : Heap} {i : Nat} (hi : i < 26) : Met l yJ0_coder_7d493 (wz yJ0_coder_7d493 cJ0_coder_7d493 1 (some .byte)) { frames := 0, cells := 0, slots := 0, locals := 0 } (TPs D (tysOf c0) Y adK adV H [.ref (adK i)]) (TQi (fun x H' => H' = H ∧ x = 0) Y []) 0 0 (pW Y []) := by
  refine Met.ofW (cc := cJ0_coder_7d493) (maxL := 1) (ret := (some .byte)) (by decide) rfl ?_
  intro p e s m args below meth c s₁ B hml hv
  obtain ⟨rfl, rfl, hK, hSO⟩ := hv
  have hx := B.exec
  have hb := B.bytes
  have hr := B.returns
  have hts : ∀ w ∈ wq, w.before _ s = true := fun w h => atoms_spec (ws := wz yJ0_coder_7d493 cJ0_coder_7d493 1 (some .byte)) B.pre w (List.mem_cons_of_mem _ h)
  have hown : s.vm.findClass RJ0 = some m.cls := findClass_of_methodNamed B.named
  have hlocks := B.notSynchronized
  obtain ⟨R, hR⟩ : ∃ R : Room, R = ({ frames := 0, cells := 0, slots := 0, locals := 0 } : Room) := ⟨_, rfl⟩
  rw [show (headSpec (wz yJ0_coder_7d493 cJ0_coder_7d493 1 (some .byte)) { frames := 0, cells := 0, slots := 0, locals := 0 }).room = R from hR.symm]
  have hl := lv_entry [.ref (adK i)] (n := 1) (Nat.le_of_ble_eq_true rfl)
  rw [lg_entry_eq]
  generalize (lg_sl [.ref (adK i)] ++ List.replicate (1 - (lg_sl [.ref (adK i)]).length) Slot.unset).toArray = ls at hl ⊢
  have hl : lv_has ls 1 [(0, .ref (adK i))] := hl
  have hS : va_S (pW Y []) s.heap s.heap [] := va_S.rf
  have hSA : va_S (pA Y) s.heap s.heap [] := va_S.rf
  refine va_gets hx hb hSO.2.1 hSA hown (hts _ kw_235) (fun _ h9 => h9) dJ0_coder_7d493_0 ?_
  refine lv_if_eq (tgt := 13) hx hb dJ0_coder_7d493_3 (by decide) (fun h9 => absurd h9 (by decide)) (fun _ => ?_)
  refine lv_aload_n hx hb dJ0_coder_7d493_6 rfl (lv_at hl 0 rfl) ?_
  refine vk_getf hx hb (hSO.1.1 i hi).2.1 hSA hown (hts _ kw_236) (fun _ h9 => h9) dJ0_coder_7d493_7 ?_
  refine lv_goto (tgt := 14) hx hb dJ0_coder_7d493_10 (by decide) ?_
  exact W.zret hx hb hr rfl (fun t ht hW => ⟨⟨0, rfl, ht, rfl⟩, hS.F ht⟩) hS.2.2 dJ0_coder_7d493_14 hlocks
set_option maxHeartbeats 4000000 in
theorem t_isLatin1 (l : Launch) {D : va_G} {c0 : Nat → ClassId} {Y : Nat → Option Nat} {adK adV : Nat → Nat} {H : Heap} {i : Nat} (hi : i < 26) : Met l yJ0_isLatin1_aae02 (wz yJ0_isLatin1_aae02 cJ0_isLatin1_aae02 1 (some .boolean)) { frames := 0, cells := 0, slots := 0, locals := 0 } (TPs D (tysOf c0) Y adK adV H [.ref (adK i)]) (TQi (fun x H' => H' = H ∧ x = 1) Y []) 0 0 (pW Y []) := by
  refine Met.ofW (cc := cJ0_isLatin1_aae02) (maxL := 1) (ret := (some .boolean)) (by decide) rfl ?_
  intro p e s m args below meth c s₁ B hml hv
  obtain ⟨rfl, rfl, hK, hSO⟩ := hv
  have hx := B.exec
  have hb := B.bytes
  have hr := B.returns
  have hts : ∀ w ∈ wq, w.before _ s = true := fun w h => atoms_spec (ws := wz yJ0_isLatin1_aae02 cJ0_isLatin1_aae02 1 (some .boolean)) B.pre w (List.mem_cons_of_mem _ h)
  have hown : s.vm.findClass RJ0 = some m.cls := findClass_of_methodNamed B.named
  have hlocks := B.notSynchronized
  obtain ⟨R, hR⟩ : ∃ R : Room, R = ({ frames := 0, cells := 0, slots := 0, locals := 0 } : Room) := ⟨_, rfl⟩
  rw [show (headSpec (wz yJ0_isLatin1_aae02 cJ0_isLatin1_aae02 1 (some .boolean)) { frames := 0, cells := 0, slots := 0, locals := 0 }).room = R from hR.symm]
  have hl := lv_entry [.ref (adK i)] (n := 1) (Nat.le_of_ble_eq_true rfl)
  rw [lg_entry_eq]
  generalize (lg_sl [.ref (adK i)] ++ List.replicate (1 - (lg_sl [.ref (adK i)]).length) Slot.unset).toArray = ls at hl ⊢
  have hl : lv_has ls 1 [(0, .ref (adK i))] := hl
  have hS : va_S (pW Y []) s.heap s.heap [] := va_S.rf
  have hSA : va_S (pA Y) s.heap s.heap [] := va_S.rf
  refine va_gets hx hb hSO.2.1 hSA hown (hts _ kw_235) (fun _ h9 => h9) dJ0_isLatin1_aae02_0 ?_
  refine lv_if_eq (tgt := 17) hx hb dJ0_isLatin1_aae02_3 (by decide) (fun h9 => absurd h9 (by decide)) (fun _ => ?_)
  refine lv_aload_n hx hb dJ0_isLatin1_aae02_6 rfl (lv_at hl 0 rfl) ?_
  refine vk_getf hx hb (hSO.1.1 i hi).2.1 hSA hown (hts _ kw_236) (fun _ h9 => h9) dJ0_isLatin1_aae02_7 ?_
  refine lv_if_ne (tgt := 17) hx hb dJ0_isLatin1_aae02_10 (by decide) (fun h9 => absurd rfl h9) (fun _ => ?_)
  refine lv_iconst (v := 1) hx hb dJ0_isLatin1_aae02_13 (by decide) ?_
  refine lv_goto (tgt := 18) hx hb dJ0_isLatin1_aae02_14 (by decide) ?_
  exact W.zret hx hb hr rfl (fun t ht hW => ⟨⟨1, rfl, ht, rfl⟩, hS.F ht⟩) hS.2.2 dJ0_isLatin1_aae02_18 hlocks
set_option maxHeartbeats 4000000 in
theorem t_length (l : Launch) {D : va_G} {c0 : Nat → ClassId} {Y : Nat → Option Nat} {adK adV : Nat → Nat} {H : Heap} {i : Nat} (hi : i < 26) : Met l yJ0_length_8abf5 (wz yJ0_length_8abf5 cJ0_length_8abf5 1 (some .int)) { frames := 1, cells := 0, slots := 0, locals := 20 } (TPs D (tysOf c0) Y adK adV H [.ref (adK i)]) (TQi (fun x H' => H' = H ∧ x = nI (lenS.getD i 0)) Y []) 0 0 (pW Y []) := by
  refine Met.ofW (cc := cJ0_length_8abf5) (maxL := 1) (ret := (some .int)) (by decide) rfl ?_
  intro p e s m args below meth c s₁ B hml hv
  obtain ⟨rfl, rfl, hK, hSO⟩ := hv
  have hx := B.exec
  have hb := B.bytes
  have hr := B.returns
  have hts : ∀ w ∈ wq, w.before _ s = true := fun w h => atoms_spec (ws := wz yJ0_length_8abf5 cJ0_length_8abf5 1 (some .int)) B.pre w (List.mem_cons_of_mem _ h)
  have hown : s.vm.findClass RJ0 = some m.cls := findClass_of_methodNamed B.named
  have hlocks := B.notSynchronized
  obtain ⟨R, hR⟩ : ∃ R : Room, R = ({ frames := 1, cells := 0, slots := 0, locals := 20 } : Room) := ⟨_, rfl⟩
  rw [show (headSpec (wz yJ0_length_8abf5 cJ0_length_8abf5 1 (some .int)) { frames := 1, cells := 0, slots := 0, locals := 20 }).room = R from hR.symm]
  have hl := lv_entry [.ref (adK i)] (n := 1) (Nat.le_of_ble_eq_true rfl)
  rw [lg_entry_eq]
  generalize (lg_sl [.ref (adK i)] ++ List.replicate (1 - (lg_sl [.ref (adK i)]).length) Slot.unset).toArray = ls at hl ⊢
  have hl : lv_has ls 1 [(0, .ref (adK i))] := hl
  have hS : va_S (pW Y []) s.heap s.heap [] := va_S.rf
  have hSA : va_S (pA Y) s.heap s.heap [] := va_S.rf
  refine lv_aload_n hx hb dJ0_length_8abf5_0 rfl (lv_at hl 0 rfl) ?_
  refine vk_getf hx hb (hSO.1.1 i hi).2.2.1 hSA hown (hts _ kw_230) (fun _ h9 => h9) dJ0_length_8abf5_1 ?_
  refine va_tlen (v := nI (lenS.getD i 0)) hx hb (hSO.1.1 i hi).2.2.2 hSA rfl dJ0_length_8abf5_4 ?_
  refine lv_aload_n hx hb dJ0_length_8abf5_5 rfl (lv_at hl 0 rfl) ?_
  refine ti_calli (va_runV (As := []) (rest := [.int (nI (lenS.getD i 0))]) ⟨hx, hb, hml, hown, hts⟩ (t_coder l hi) (cwV 0 hts (good_V kw_231 kw_232 kw_233 kw_228 kw_234) rfl rfl rfl (by decide +kernel) ⟨by rw [hR]; decide, by rw [hR]; decide⟩) (ts_preK hK hSO hS hi) rfl rfl hl.1 rfl (lv_room (Nat.le_of_ble_eq_true rfl)) dJ0_length_8abf5_6 ⟨Nat.zero_le _, Nat.zero_le _⟩) hS (pW_sub rfl) (fun v H1 locs hB hS _ _ => ?_)
  obtain ⟨hH, rfl⟩ := hB
  rw [hH] at hS ⊢
  refine lv_ishr hx hb dJ0_length_8abf5_9 ?_
  rw [sc_shr0 (Nat.lt_trans (lenS_lt i hi) (by decide))]
  exact W.iret hx hb hr (fun t ht hW => ⟨⟨_, rfl, ht, rfl⟩, hS.F ht⟩) hS.2.2 dJ0_length_8abf5_10 hlocks
set_option maxHeartbeats 4000000 in
theorem t_pcheckN (l : Launch) {D : va_G} {c0 : Nat → ClassId} {Y : Nat → Option Nat} {adK adV : Nat → Nat} {H : Heap} {k n : Int32} (hk : 0 ≤ k.toInt) (hn : k.toInt < n.toInt) : Met l yJ3_checkIndex_8e157 (wz yJ3_checkIndex_8e157 cJ3_checkIndex_8e157 3 (some .int)) { frames := 0, cells := 0, slots := 0, locals := 0 } (TPs D (tysOf c0) Y adK adV H [.int k, .int n, .null]) (TQi (fun x H' => H' = H) Y []) 0 0 (pW Y []) := by
  refine Met.ofW (cc := cJ3_checkIndex_8e157) (maxL := 3) (ret := (some .int)) (by decide) rfl ?_
  intro p e s m args below meth c s₁ B hml hv
  obtain ⟨rfl, rfl, hK, hSO⟩ := hv
  have hx := B.exec
  have hb := B.bytes
  have hr := B.returns
  have hts : ∀ w ∈ wq, w.before _ s = true := fun w h => atoms_spec (ws := wz yJ3_checkIndex_8e157 cJ3_checkIndex_8e157 3 (some .int)) B.pre w (List.mem_cons_of_mem _ h)
  have hown : s.vm.findClass RJ3 = some m.cls := findClass_of_methodNamed B.named
  have hlocks := B.notSynchronized
  obtain ⟨R, hR⟩ : ∃ R : Room, R = ({ frames := 0, cells := 0, slots := 0, locals := 0 } : Room) := ⟨_, rfl⟩
  rw [show (headSpec (wz yJ3_checkIndex_8e157 cJ3_checkIndex_8e157 3 (some .int)) { frames := 0, cells := 0, slots := 0, locals := 0 }).room = R from hR.symm]
  have hl := lv_entry [.int k, .int n, .null] (n := 3) (Nat.le_of_ble_eq_true rfl)
  rw [lg_entry_eq]
  generalize (lg_sl [.int k, .int n, .null] ++ List.replicate (3 - (lg_sl [.int k, .int n, .null]).length) Slot.unset).toArray = ls at hl ⊢
  have hl : lv_has ls 3 [(0, .int k), (1, .int n), (2, .null)] := hl
  have hS : va_S (pW Y []) s.heap s.heap [] := va_S.rf
  have hSA : va_S (pA Y) s.heap s.heap [] := va_S.rf
  have z0 : (0 : Int32).toInt = 0 := by decide
  refine lv_iload_n hx hb dJ3_checkIndex_8e157_0 rfl (lv_at hl 0 rfl) ?_
  refine lv_if_lt (tgt := 9) hx hb dJ3_checkIndex_8e157_1 (by decide) (fun h9 => absurd (i_lt h9) (by omega)) (fun _ => ?_)
  refine lv_iload_n hx hb dJ3_checkIndex_8e157_4 rfl (lv_at hl 0 rfl) ?_
  refine lv_iload_n hx hb dJ3_checkIndex_8e157_5 rfl (lv_at hl 1 rfl) ?_
  refine lv_icmp_lt (tgt := 16) hx hb dJ3_checkIndex_8e157_6 (by decide) (fun _ => ?_) (fun h9 => absurd (i_nlt h9) (by omega))
  refine lv_iload_n hx hb dJ3_checkIndex_8e157_16 rfl (lv_at hl 0 rfl) ?_
  exact W.iret hx hb hr (fun t ht hW => ⟨⟨_, rfl, ht⟩, hS.F ht⟩) hS.2.2 dJ3_checkIndex_8e157_17 hlocks
set_option maxHeartbeats 4000000 in
theorem t_pcheckR (l : Launch) {D : va_G} {c0 : Nat → ClassId} {Y : Nat → Option Nat} {adK adV : Nat → Nat} {H : Heap} {k n : Int32} {v : Nat} (hk : 0 ≤ k.toInt) (hn : k.toInt < n.toInt) : Met l yJ3_checkIndex_8e157 (wz yJ3_checkIndex_8e157 cJ3_checkIndex_8e157 3 (some .int)) { frames := 0, cells := 0, slots := 0, locals := 0 } (TPs D (tysOf c0) Y adK adV H [.int k, .int n, .ref v]) (TQi (fun x H' => H' = H) Y []) 0 0 (pW Y []) := by
  refine Met.ofW (cc := cJ3_checkIndex_8e157) (maxL := 3) (ret := (some .int)) (by decide) rfl ?_
  intro p e s m args below meth c s₁ B hml hv
  obtain ⟨rfl, rfl, hK, hSO⟩ := hv
  have hx := B.exec
  have hb := B.bytes
  have hr := B.returns
  have hts : ∀ w ∈ wq, w.before _ s = true := fun w h => atoms_spec (ws := wz yJ3_checkIndex_8e157 cJ3_checkIndex_8e157 3 (some .int)) B.pre w (List.mem_cons_of_mem _ h)
  have hown : s.vm.findClass RJ3 = some m.cls := findClass_of_methodNamed B.named
  have hlocks := B.notSynchronized
  obtain ⟨R, hR⟩ : ∃ R : Room, R = ({ frames := 0, cells := 0, slots := 0, locals := 0 } : Room) := ⟨_, rfl⟩
  rw [show (headSpec (wz yJ3_checkIndex_8e157 cJ3_checkIndex_8e157 3 (some .int)) { frames := 0, cells := 0, slots := 0, locals := 0 }).room = R from hR.symm]
  have hl := lv_entry [.int k, .int n, .ref v] (n := 3) (Nat.le_of_ble_eq_true rfl)
  rw [lg_entry_eq]
  generalize (lg_sl [.int k, .int n, .ref v] ++ List.replicate (3 - (lg_sl [.int k, .int n, .ref v]).length) Slot.unset).toArray = ls at hl ⊢
  have hl : lv_has ls 3 [(0, .int k), (1, .int n), (2, .ref v)] := hl
  have hS : va_S (pW Y []) s.heap s.heap [] := va_S.rf
  have hSA : va_S (pA Y) s.heap s.heap [] := va_S.rf
  have z0 : (0 : Int32).toInt = 0 := by decide
  refine lv_iload_n hx hb dJ3_checkIndex_8e157_0 rfl (lv_at hl 0 rfl) ?_
  refine lv_if_lt (tgt := 9) hx hb dJ3_checkIndex_8e157_1 (by decide) (fun h9 => absurd (i_lt h9) (by omega)) (fun _ => ?_)
  refine lv_iload_n hx hb dJ3_checkIndex_8e157_4 rfl (lv_at hl 0 rfl) ?_
  refine lv_iload_n hx hb dJ3_checkIndex_8e157_5 rfl (lv_at hl 1 rfl) ?_
  refine lv_icmp_lt (tgt := 16) hx hb dJ3_checkIndex_8e157_6 (by decide) (fun _ => ?_) (fun h9 => absurd (i_nlt h9) (by omega))
  refine lv_iload_n hx hb dJ3_checkIndex_8e157_16 rfl (lv_at hl 0 rfl) ?_
  exact W.iret hx hb hr (fun t ht hW => ⟨⟨_, rfl, ht⟩, hS.F ht⟩) hS.2.2 dJ3_checkIndex_8e157_17 hlocks
set_option maxHeartbeats 4000000 in
theorem t_scheck (l : Launch) {D : va_G} {c0 : Nat → ClassId} {Y : Nat → Option Nat} {adK adV : Nat → Nat} {H : Heap} {k n : Int32} (hk : 0 ≤ k.toInt) (hn : k.toInt < n.toInt) : Met l yJ0_checkIndex_df160 (wz yJ0_checkIndex_df160 cJ0_checkIndex_df160 2 none) { frames := 1, cells := 0, slots := 0, locals := 22 } (TPs D (tysOf c0) Y adK adV H [.int k, .int n]) (TQv (fun H' => H' = H) Y []) 0 0 (pW Y []) := by
  refine Met.ofW (cc := cJ0_checkIndex_df160) (maxL := 2) (ret := none) (by decide) rfl ?_
  intro p e s m args below meth c s₁ B hml hv
  obtain ⟨rfl, rfl, hK, hSO⟩ := hv
  have hx := B.exec
  have hb := B.bytes
  have hr := B.returns
  have hts : ∀ w ∈ wq, w.before _ s = true := fun w h => atoms_spec (ws := wz yJ0_checkIndex_df160 cJ0_checkIndex_df160 2 none) B.pre w (List.mem_cons_of_mem _ h)
  have hown : s.vm.findClass RJ0 = some m.cls := findClass_of_methodNamed B.named
  have hlocks := B.notSynchronized
  obtain ⟨R, hR⟩ : ∃ R : Room, R = ({ frames := 1, cells := 0, slots := 0, locals := 22 } : Room) := ⟨_, rfl⟩
  rw [show (headSpec (wz yJ0_checkIndex_df160 cJ0_checkIndex_df160 2 none) { frames := 1, cells := 0, slots := 0, locals := 22 }).room = R from hR.symm]
  have hl := lv_entry [.int k, .int n] (n := 2) (Nat.le_of_ble_eq_true rfl)
  rw [lg_entry_eq]
  generalize (lg_sl [.int k, .int n] ++ List.replicate (2 - (lg_sl [.int k, .int n]).length) Slot.unset).toArray = ls at hl ⊢
  have hl : lv_has ls 2 [(0, .int k), (1, .int n)] := hl
  have hS : va_S (pW Y []) s.heap s.heap [] := va_S.rf
  have hSA : va_S (pA Y) s.heap s.heap [] := va_S.rf
  obtain ⟨v, hv1, hv2⟩ := hSO.2.2.1
  refine lv_iload_n hx hb dJ0_checkIndex_df160_0 rfl (lv_at hl 0 rfl) ?_
  refine lv_iload_n hx hb dJ0_checkIndex_df160_1 rfl (lv_at hl 1 rfl) ?_
  refine va_gets hx hb hv2 hSA hown (hts _ kw_252) (fun _ h9 => h9) dJ0_checkIndex_df160_2 ?_
  rcases hv1 with rfl | ⟨v, rfl⟩
  · refine ti_calli (va_runS (As := [.int k, .int n, .null]) (rest := []) ⟨hx, hb, hml, hown, hts⟩ (t_pcheckN l hk hn) (va_cwS 3 hts (good_SS kw_253 kw_254 kw_255 kw_256) rfl rfl rfl (by decide +kernel) ⟨by rw [hR]; decide, by rw [hR]; decide⟩) (ts_preS hK hSO hS) rfl rfl hl.1 rfl (lv_room (Nat.le_of_ble_eq_true rfl)) dJ0_checkIndex_df160_5 ⟨Nat.zero_le _, Nat.zero_le _⟩) hS (pW_sub rfl) (fun x H1 locs hB hS _ _ => ?_)
    rw [show H1 = s.heap from hB] at hS ⊢
    refine lv_pop hx hb dJ0_checkIndex_df160_8 rfl ?_
    exact W.vret hx hb hr (fun t ht hW => ⟨⟨rfl, ht⟩, hS.F ht⟩) hS.2.2 dJ0_checkIndex_df160_9 hlocks
  · refine ti_calli (va_runS (As := [.int k, .int n, .ref v]) (rest := []) ⟨hx, hb, hml, hown, hts⟩ (t_pcheckR l hk hn) (va_cwS 3 hts (good_SS kw_253 kw_254 kw_255 kw_256) rfl rfl rfl (by decide +kernel) ⟨by rw [hR]; decide, by rw [hR]; decide⟩) (ts_preS hK hSO hS) rfl rfl hl.1 rfl (lv_room (Nat.le_of_ble_eq_true rfl)) dJ0_checkIndex_df160_5 ⟨Nat.zero_le _, Nat.zero_le _⟩) hS (pW_sub rfl) (fun x H1 locs hB hS _ _ => ?_)
    rw [show H1 = s.heap from hB] at hS ⊢
    refine lv_pop hx hb dJ0_checkIndex_df160_8 rfl ?_
    exact W.vret hx hb hr (fun t ht hW => ⟨⟨rfl, ht⟩, hS.F ht⟩) hS.2.2 dJ0_checkIndex_df160_9 hlocks
set_option maxHeartbeats 4000000 in
theorem t_l1char (l : Launch) {D : va_G} {c0 : Nat → ClassId} {Y : Nat → Option Nat} {adK adV : Nat → Nat} {H : Heap} {i : Nat} (hi : i < 26) {k : Int32} (hk : 0 ≤ k.toInt) (hn : k.toInt < (lenS.getD i 0 : Int)) : Met l yJ1_charAt_3b067 (wz yJ1_charAt_3b067 cJ1_charAt_3b067 2 (some .char)) { frames := 2, cells := 0, slots := 0, locals := 43 } (TPs D (tysOf c0) Y adK adV H [.ref (adV i), .int k]) (TQi (fun x H' => H' = H ∧ x = (bytS.getD i []).getD k.toNatClampNeg 0 &&& 255) Y []) 0 0 (pW Y []) := by
  refine Met.ofW (cc := cJ1_charAt_3b067) (maxL := 2) (ret := (some .char)) (by decide) rfl ?_
  intro p e s m args below meth c s₁ B hml hv
  obtain ⟨rfl, rfl, hK, hSO⟩ := hv
  have hx := B.exec
  have hb := B.bytes
  have hr := B.returns
  have hts : ∀ w ∈ wq, w.before _ s = true := fun w h => atoms_spec (ws := wz yJ1_charAt_3b067 cJ1_charAt_3b067 2 (some .char)) B.pre w (List.mem_cons_of_mem _ h)
  have hown : s.vm.findClass RJ1 = some m.cls := findClass_of_methodNamed B.named
  have hlocks := B.notSynchronized
  obtain ⟨R, hR⟩ : ∃ R : Room, R = ({ frames := 2, cells := 0, slots := 0, locals := 43 } : Room) := ⟨_, rfl⟩
  rw [show (headSpec (wz yJ1_charAt_3b067 cJ1_charAt_3b067 2 (some .char)) { frames := 2, cells := 0, slots := 0, locals := 43 }).room = R from hR.symm]
  have hl := lv_entry [.ref (adV i), .int k] (n := 2) (Nat.le_of_ble_eq_true rfl)
  rw [lg_entry_eq]
  generalize (lg_sl [.ref (adV i), .int k] ++ List.replicate (2 - (lg_sl [.ref (adV i), .int k]).length) Slot.unset).toArray = ls at hl ⊢
  have hl : lv_has ls 2 [(0, .ref (adV i)), (1, .int k)] := hl
  have hS : va_S (pW Y []) s.heap s.heap [] := va_S.rf
  have hSA : va_S (pA Y) s.heap s.heap [] := va_S.rf
  have hlt := lenS_lt i hi
  have eN : (nI (lenS.getD i 0)).toInt = (lenS.getD i 0 : Int) := nI_toInt (by omega)
  refine lv_iload_n hx hb dJ1_charAt_3b067_0 rfl (lv_at hl 1 rfl) ?_
  refine lv_aload_n hx hb dJ1_charAt_3b067_1 rfl (lv_at hl 0 rfl) ?_
  refine va_tlen (v := nI (lenS.getD i 0)) hx hb (hSO.1.1 i hi).2.2.2 hSA rfl dJ1_charAt_3b067_2 ?_
  refine ti_callv (va_runS (As := [.int k, .int (nI (lenS.getD i 0))]) (rest := []) ⟨hx, hb, hml, hown, hts⟩ (t_scheck l hk (by rw [eN]; exact hn)) (va_cwS 2 hts (good_SS kw_249 kw_250 kw_228 kw_251) rfl rfl rfl (by decide +kernel) ⟨by rw [hR]; decide, by rw [hR]; decide⟩) (ts_preS hK hSO hS) rfl rfl hl.1 rfl (lv_room (Nat.le_of_ble_eq_true rfl)) dJ1_charAt_3b067_3 ⟨Nat.zero_le _, Nat.zero_le _⟩) hS (pW_sub rfl) (fun H1 locs hB hS _ _ => ?_)
  rw [show H1 = s.heap from hB] at hS ⊢
  refine lv_aload_n hx hb dJ1_charAt_3b067_6 rfl (lv_at hl 0 rfl) ?_
  refine lv_iload_n hx hb dJ1_charAt_3b067_7 rfl (lv_at hl 1 rfl) ?_
  have hin : vp_in k (lenS.getD i 0) := by
    rintro (q | q)
    · have := i_lt q
      have z0 : (0 : Int32).toInt = 0 := by decide
      omega
    · have q : lenS.getD i 0 ≤ k.toInt.toNat := q
      omega
  refine va_tb hx hb (hSO.1.1 i hi).2.2.2 (ts_wide hS) hin rfl dJ1_charAt_3b067_8 ?_
  refine lv_sipush (v := 255) hx hb dJ1_charAt_3b067_9 (by decide) ?_
  refine lv_iand hx hb dJ1_charAt_3b067_12 ?_
  refine lv_i2c hx hb dJ1_charAt_3b067_13 (sc_c2 _) ?_
  exact W.zret hx hb hr (sc_nar _) (fun t ht hW => ⟨⟨_, rfl, ht, rfl⟩, hS.F ht⟩) hS.2.2 dJ1_charAt_3b067_14 hlocks
set_option maxHeartbeats 4000000 in
theorem t_charAt (l : Launch) {D : va_G} {c0 : Nat → ClassId} {Y : Nat → Option Nat} {adK adV : Nat → Nat} {H : Heap} {i : Nat} (hi : i < 26) {k : Int32} (hk : 0 ≤ k.toInt) (hn : k.toInt < (lenS.getD i 0 : Int)) : Met l yJ0_charAt_5068e (wz yJ0_charAt_5068e cJ0_charAt_5068e 2 (some .char)) { frames := 3, cells := 0, slots := 0, locals := 64 } (TPs D (tysOf c0) Y adK adV H [.ref (adK i), .int k]) (TQi (fun x H' => H' = H ∧ x = (bytS.getD i []).getD k.toNatClampNeg 0 &&& 255) Y []) 0 0 (pW Y []) := by
  refine Met.ofW (cc := cJ0_charAt_5068e) (maxL := 2) (ret := (some .char)) (by decide) rfl ?_
  intro p e s m args below meth c s₁ B hml hv
  obtain ⟨rfl, rfl, hK, hSO⟩ := hv
  have hx := B.exec
  have hb := B.bytes
  have hr := B.returns
  have hts : ∀ w ∈ wq, w.before _ s = true := fun w h => atoms_spec (ws := wz yJ0_charAt_5068e cJ0_charAt_5068e 2 (some .char)) B.pre w (List.mem_cons_of_mem _ h)
  have hown : s.vm.findClass RJ0 = some m.cls := findClass_of_methodNamed B.named
  have hlocks := B.notSynchronized
  obtain ⟨R, hR⟩ : ∃ R : Room, R = ({ frames := 3, cells := 0, slots := 0, locals := 64 } : Room) := ⟨_, rfl⟩
  rw [show (headSpec (wz yJ0_charAt_5068e cJ0_charAt_5068e 2 (some .char)) { frames := 3, cells := 0, slots := 0, locals := 64 }).room = R from hR.symm]
  have hl := lv_entry [.ref (adK i), .int k] (n := 2) (Nat.le_of_ble_eq_true rfl)
  rw [lg_entry_eq]
  generalize (lg_sl [.ref (adK i), .int k] ++ List.replicate (2 - (lg_sl [.ref (adK i), .int k]).length) Slot.unset).toArray = ls at hl ⊢
  have hl : lv_has ls 2 [(0, .ref (adK i)), (1, .int k)] := hl
  have hS : va_S (pW Y []) s.heap s.heap [] := va_S.rf
  have hSA : va_S (pA Y) s.heap s.heap [] := va_S.rf
  refine lv_aload_n hx hb dJ0_charAt_5068e_0 rfl (lv_at hl 0 rfl) ?_
  refine ti_calli (va_runV (As := []) (rest := []) ⟨hx, hb, hml, hown, hts⟩ (t_isLatin1 l hi) (cwV 0 hts (good_V kw_241 kw_242 kw_243 kw_228 kw_244) rfl rfl rfl (by decide +kernel) ⟨by rw [hR]; decide, by rw [hR]; decide⟩) (ts_preK hK hSO hS hi) rfl rfl hl.1 rfl (lv_room (Nat.le_of_ble_eq_true rfl)) dJ0_charAt_5068e_1 ⟨Nat.zero_le _, Nat.zero_le _⟩) hS (pW_sub rfl) (fun v H1 locs hB hS _ _ => ?_)
  obtain ⟨hH, rfl⟩ := hB
  rw [hH] at hS ⊢
  refine lv_if_eq (tgt := 16) hx hb dJ0_charAt_5068e_4 (by decide) (fun h9 => absurd h9 (by decide)) (fun _ => ?_)
  refine lv_aload_n hx hb dJ0_charAt_5068e_7 rfl (lv_at hl 0 rfl) ?_
  refine vk_getf hx hb (hSO.1.1 i hi).2.2.1 (ts_wide hS) hown (hts _ kw_230) (fun _ h9 => h9) dJ0_charAt_5068e_8 ?_
  refine lv_iload_n hx hb dJ0_charAt_5068e_11 rfl (lv_at hl 1 rfl) ?_
  refine ti_calli (va_runS (As := [.ref (adV i), .int k]) (rest := []) ⟨hx, hb, hml, hown, hts⟩ (t_l1char l hi hk hn) (va_cwS 2 hts (good_SS kw_245 kw_246 kw_247 kw_248) rfl rfl rfl (by decide +kernel) ⟨by rw [hR]; decide, by rw [hR]; decide⟩) (ts_preS hK hSO hS) rfl rfl hl.1 rfl (lv_room (Nat.le_of_ble_eq_true rfl)) dJ0_charAt_5068e_12 ⟨Nat.zero_le _, Nat.zero_le _⟩) hS (pW_sub rfl) (fun v H1 locs hB hS _ _ => ?_)
  obtain ⟨hH, rfl⟩ := hB
  rw [hH] at hS ⊢
  exact W.zret hx hb hr (sc_nar _) (fun t ht hW => ⟨⟨_, rfl, ht, rfl⟩, hS.F ht⟩) hS.2.2 dJ0_charAt_5068e_15 hlocks
/-! the word that stands at the token -/
def chS (i k : Nat) : Int32 := (bytS.getD i []).getD k 0 &&& 255
def isW (D : va_G) (a i : Nat) (H : Heap) : Prop := ∃ (z t f : Int32) (tp : Nat), fi D vwCl a 10 13 (.int 0) H ∧ fi D vwCl a 10 11 (.int 1) H ∧ fi D vwCl a 10 9 (.int z) H ∧ fi D vwCl a 10 10 (.int f) H ∧ fi D vwCl a 10 5 (.ref tp) H ∧ z.toInt = f.toInt + (lenS.getD i 0 : Int) ∧ t = 1 ∧ ∀ k : Nat, k < lenS.getD i 0 → am tp (f.toNatClampNeg + k) (.int (chS i k)) H
section ISW
variable {D : va_G} {a i tp : Nat} {H : Heap} {m : Int32}
theorem isW_fault (h : isW D a i H) (hm : fi D vwCl a 10 13 (.int m) H) : m.toInt = 0 := by
  obtain ⟨z, t, f, tp, h1, -⟩ := h
  cases fi_inj hm h1 (q := (RX10, TX10, 38)) rfl (by decide)
  decide
theorem isW_tok (h : isW D a i H) (hm : fi D vwCl a 10 11 (.int m) H) : m.toInt = 1 := by
  obtain ⟨z, t, f, tp, -, h1, -⟩ := h
  cases fi_inj hm h1 (q := (RX10, TX10, 38)) rfl (by decide)
  decide
theorem isW_len {n : Int32} (h : isW D a i H) (h9 : fi D vwCl a 10 9 (.int m) H) (h10 : fi D vwCl a 10 10 (.int n) H) : m.toInt = n.toInt + (lenS.getD i 0 : Int) := by
  obtain ⟨z, t, f, tp, -, -, g1, g2, -, g3, -⟩ := h
  cases fi_inj h9 g1 (q := (RX10, TX10, 38)) rfl (by decide)
  cases fi_inj h10 g2 (q := (RX10, TX10, 38)) rfl (by decide)
  exact g3
theorem isW_ch (h : isW D a i H) (h10 : fi D vwCl a 10 10 (.int m) H) (h5 : fi D vwCl a 10 5 (.ref tp) H) {k : Nat} (hk : k < lenS.getD i 0) : am tp (m.toNatClampNeg + k) (.int (chS i k)) H := by
  obtain ⟨z, t, f, tp', -, -, -, g2, g3, -, -, g4⟩ := h
  cases fi_inj h10 g2 (q := (RX10, TX10, 38)) rfl (by decide)
  cases fi_inj h5 g3 (q := (RX10, TX10, 38)) rfl (by decide)
  exact g4 k hk
theorem isW_mk {m0 m1 m2 m3 : Int32} (h13 : fi D vwCl a 10 13 (.int m0) H) (h9 : fi D vwCl a 10 9 (.int m1) H) (h10 : fi D vwCl a 10 10 (.int m2) H) (h11 : fi D vwCl a 10 11 (.int m3) H) (h5 : fi D vwCl a 10 5 (.ref tp) H) (e0 : m0.toInt = 0) (e3 : m3.toInt = 1) (e1 : m1.toInt = m2.toInt + (lenS.getD i 0 : Int)) (hc : ∀ k : Nat, k < lenS.getD i 0 → am tp (m2.toNatClampNeg + k) (.int (chS i k)) H) : isW D a i H := by
  have z0 : m0 = 0 := Int32.toInt_inj.mp (e0.trans (by decide))
  have z3 : m3 = 1 := Int32.toInt_inj.mp (e3.trans (by decide))
  subst z0
  subst z3
  exact ⟨m1, 1, m2, tp, h13, h11, h9, h10, h5, e1, rfl, hc⟩
end ISW
theorem is_end {D : va_G} {c0 : Nat → ClassId} {ν : Nat → Nat} {Y : Nat → Option Nat} {H : Heap} {a i : Nat} {x k m0 m1 m2 m3 : Int32} (hI1 : 1 ≤ x.toInt → m0.toInt = 0 ∧ m3.toInt = 1 ∧ m1.toInt = m2.toInt + (lenS.getD i 0 : Int) ∧ ∀ tp, fi D vwCl a 10 5 (.ref tp) H → ∀ j : Nat, j < k.toNatClampNeg → am tp (m2.toNatClampNeg + j) (.int (chS i j)) H) (hI0 : x.toInt = 0 → ¬ isW D a i H) (hx : iv x 0 1) (h13 : fi D vwCl a 10 13 (.int m0) H) (h9 : fi D vwCl a 10 9 (.int m1) H) (h10 : fi D vwCl a 10 10 (.int m2) H) (h11 : fi D vwCl a 10 11 (.int m3) H) (hT : TI D vwCl (tysOf c0) (RTg ν) Y H) (ha : Y a = some 10) (hk : 1 ≤ x.toInt → (lenS.getD i 0 : Int) ≤ k.toInt) : (x.toInt = 1 ∧ isW D a i H) ∨ (x.toInt = 0 ∧ ¬ isW D a i H) := by
  obtain ⟨x1, x2⟩ := hx
  by_cases e : 1 ≤ x.toInt
  · left
    obtain ⟨q0, q1, q2, q3⟩ := hI1 e
    have hk := hk e
    obtain ⟨fs, g1, g2, g3, -⟩ := ti_obj hT ha rfl
    obtain ⟨v, g4, tp, rfl, -⟩ := g3 5 _ rfl
    have h5 : fi D vwCl a 10 5 (.ref tp) H := ⟨fs, g1, g4, fun q hq => by cases hq; exact g2⟩
    refine ⟨by omega, isW_mk h13 h9 h10 h11 h5 q0 q1 q2 (fun j hj => q3 tp h5 j ?_)⟩
    show j < k.toInt.toNat
    omega
  · right
    exact ⟨by omega, hI0 (by omega)⟩
theorem model_fresh {D : va_G} {c0 : Nat → ClassId} {ν : Nat → Nat} {Y : Nat → Option Nat} {H : Heap} {a : Nat} (hT : TI D vwCl (tysOf c0) (RTg ν) Y H) (ha : Y a = some 10) : ∃ b, Y b = some 36 := by
  obtain ⟨fs, -, -, h3, -⟩ := ti_obj hT ha rfl
  obtain ⟨v, -, q, -, hq⟩ := h3 15 _ rfl
  exact ⟨q, hq⟩
