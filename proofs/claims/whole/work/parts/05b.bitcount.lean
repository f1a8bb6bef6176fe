
/-! Integer.bitCount over sets of at most 16 edits -/
def popc (m : Nat) : Nat := cnt (fun k => m.testBit k) 16
def popq (m : Nat) : Nat := (m &&& 1) + ((m >>> 1) &&& 1) + ((m >>> 2) &&& 1) + ((m >>> 3) &&& 1) + ((m >>> 4) &&& 1) + ((m >>> 5) &&& 1) + ((m >>> 6) &&& 1) + ((m >>> 7) &&& 1) + ((m >>> 8) &&& 1) + ((m >>> 9) &&& 1) + ((m >>> 10) &&& 1) + ((m >>> 11) &&& 1) + ((m >>> 12) &&& 1) + ((m >>> 13) &&& 1) + ((m >>> 14) &&& 1) + ((m >>> 15) &&& 1)
def sw1 (m : Nat) : Nat := m - ((m >>> 1) &&& 1431655765)
def sw2 (m : Nat) : Nat := (m &&& 858993459) + ((m >>> 2) &&& 858993459)
def sw3 (m : Nat) : Nat := (m + (m >>> 4)) &&& 252645135
def sw4 (m : Nat) : Nat := m + (m >>> 8)
def sw5 (m : Nat) : Nat := m + (m >>> 16)
def swo (m : Nat) : Bool := ((m >>> 1) &&& 1431655765).ble m && (sw1 m).blt 65536 && (sw2 (sw1 m)).blt 65536 && (sw3 (sw2 (sw1 m))).blt 65536 && (sw4 (sw3 (sw2 (sw1 m)))).blt 65536 && ((sw5 (sw4 (sw3 (sw2 (sw1 m))))) &&& 63).beq (popq m)
def swr (a : Nat) : Nat → Bool
  | 0 => true
  | n + 1 => swo (a + n) && swr a n
theorem swr_s {a n m : Nat} (h : swr a n = true) (h1 : a ≤ m) (h2 : m < a + n) : swo m = true := by
  induction n with
  | zero => omega
  | succ n ih =>
    have h' : (swo (a + n) && swr a n) = true := h
    rw [Bool.and_eq_true] at h'
    by_cases e : m = a + n
    · rw [e]; exact h'.1
    · exact ih h'.2 (by omega)
theorem swc_0 : swr 0 1024 = true := by decide +kernel
theorem swc_1 : swr 1024 1024 = true := by decide +kernel
theorem swc_2 : swr 2048 1024 = true := by decide +kernel
theorem swc_3 : swr 3072 1024 = true := by decide +kernel
theorem swc_4 : swr 4096 1024 = true := by decide +kernel
theorem swc_5 : swr 5120 1024 = true := by decide +kernel
theorem swc_6 : swr 6144 1024 = true := by decide +kernel
theorem swc_7 : swr 7168 1024 = true := by decide +kernel
theorem swc_8 : swr 8192 1024 = true := by decide +kernel
theorem swc_9 : swr 9216 1024 = true := by decide +kernel
theorem swc_10 : swr 10240 1024 = true := by decide +kernel
theorem swc_11 : swr 11264 1024 = true := by decide +kernel
theorem swc_12 : swr 12288 1024 = true := by decide +kernel
theorem swc_13 : swr 13312 1024 = true := by decide +kernel
theorem swc_14 : swr 14336 1024 = true := by decide +kernel
theorem swc_15 : swr 15360 1024 = true := by decide +kernel
theorem swc_16 : swr 16384 1024 = true := by decide +kernel
theorem swc_17 : swr 17408 1024 = true := by decide +kernel
theorem swc_18 : swr 18432 1024 = true := by decide +kernel
theorem swc_19 : swr 19456 1024 = true := by decide +kernel
theorem swc_20 : swr 20480 1024 = true := by decide +kernel
theorem swc_21 : swr 21504 1024 = true := by decide +kernel
theorem swc_22 : swr 22528 1024 = true := by decide +kernel
theorem swc_23 : swr 23552 1024 = true := by decide +kernel
theorem swc_24 : swr 24576 1024 = true := by decide +kernel
theorem swc_25 : swr 25600 1024 = true := by decide +kernel
theorem swc_26 : swr 26624 1024 = true := by decide +kernel
theorem swc_27 : swr 27648 1024 = true := by decide +kernel
theorem swc_28 : swr 28672 1024 = true := by decide +kernel
theorem swc_29 : swr 29696 1024 = true := by decide +kernel
theorem swc_30 : swr 30720 1024 = true := by decide +kernel
theorem swc_31 : swr 31744 1024 = true := by decide +kernel
theorem swc_32 : swr 32768 1024 = true := by decide +kernel
theorem swc_33 : swr 33792 1024 = true := by decide +kernel
theorem swc_34 : swr 34816 1024 = true := by decide +kernel
theorem swc_35 : swr 35840 1024 = true := by decide +kernel
theorem swc_36 : swr 36864 1024 = true := by decide +kernel
theorem swc_37 : swr 37888 1024 = true := by decide +kernel
theorem swc_38 : swr 38912 1024 = true := by decide +kernel
theorem swc_39 : swr 39936 1024 = true := by decide +kernel
theorem swc_40 : swr 40960 1024 = true := by decide +kernel
theorem swc_41 : swr 41984 1024 = true := by decide +kernel
theorem swc_42 : swr 43008 1024 = true := by decide +kernel
theorem swc_43 : swr 44032 1024 = true := by decide +kernel
theorem swc_44 : swr 45056 1024 = true := by decide +kernel
theorem swc_45 : swr 46080 1024 = true := by decide +kernel
theorem swc_46 : swr 47104 1024 = true := by decide +kernel
theorem swc_47 : swr 48128 1024 = true := by decide +kernel
theorem swc_48 : swr 49152 1024 = true := by decide +kernel
theorem swc_49 : swr 50176 1024 = true := by decide +kernel
theorem swc_50 : swr 51200 1024 = true := by decide +kernel
theorem swc_51 : swr 52224 1024 = true := by decide +kernel
theorem swc_52 : swr 53248 1024 = true := by decide +kernel
theorem swc_53 : swr 54272 1024 = true := by decide +kernel
theorem swc_54 : swr 55296 1024 = true := by decide +kernel
theorem swc_55 : swr 56320 1024 = true := by decide +kernel
theorem swc_56 : swr 57344 1024 = true := by decide +kernel
theorem swc_57 : swr 58368 1024 = true := by decide +kernel
theorem swc_58 : swr 59392 1024 = true := by decide +kernel
theorem swc_59 : swr 60416 1024 = true := by decide +kernel
theorem swc_60 : swr 61440 1024 = true := by decide +kernel
theorem swc_61 : swr 62464 1024 = true := by decide +kernel
theorem swc_62 : swr 63488 1024 = true := by decide +kernel
theorem swc_63 : swr 64512 1024 = true := by decide +kernel
theorem sw_all {m : Nat} (h : m < 65536) : swo m = true := by
  rcases Nat.lt_or_ge m 32768 with q | q
  · rcases Nat.lt_or_ge m 16384 with q | q
    · rcases Nat.lt_or_ge m 8192 with q | q
      · rcases Nat.lt_or_ge m 4096 with q | q
        · rcases Nat.lt_or_ge m 2048 with q | q
          · rcases Nat.lt_or_ge m 1024 with q | q
            · exact swr_s swc_0 (by omega) (by omega)
            · exact swr_s swc_1 (by omega) (by omega)
          · rcases Nat.lt_or_ge m 3072 with q | q
            · exact swr_s swc_2 (by omega) (by omega)
            · exact swr_s swc_3 (by omega) (by omega)
        · rcases Nat.lt_or_ge m 6144 with q | q
          · rcases Nat.lt_or_ge m 5120 with q | q
            · exact swr_s swc_4 (by omega) (by omega)
            · exact swr_s swc_5 (by omega) (by omega)
          · rcases Nat.lt_or_ge m 7168 with q | q
            · exact swr_s swc_6 (by omega) (by omega)
            · exact swr_s swc_7 (by omega) (by omega)
      · rcases Nat.lt_or_ge m 12288 with q | q
        · rcases Nat.lt_or_ge m 10240 with q | q
          · rcases Nat.lt_or_ge m 9216 with q | q
            · exact swr_s swc_8 (by omega) (by omega)
            · exact swr_s swc_9 (by omega) (by omega)
          · rcases Nat.lt_or_ge m 11264 with q | q
            · exact swr_s swc_10 (by omega) (by omega)
            · exact swr_s swc_11 (by omega) (by omega)
        · rcases Nat.lt_or_ge m 14336 with q | q
          · rcases Nat.lt_or_ge m 13312 with q | q
            · exact swr_s swc_12 (by omega) (by omega)
            · exact swr_s swc_13 (by omega) (by omega)
          · rcases Nat.lt_or_ge m 15360 with q | q
            · exact swr_s swc_14 (by omega) (by omega)
            · exact swr_s swc_15 (by omega) (by omega)
    · rcases Nat.lt_or_ge m 24576 with q | q
      · rcases Nat.lt_or_ge m 20480 with q | q
        · rcases Nat.lt_or_ge m 18432 with q | q
          · rcases Nat.lt_or_ge m 17408 with q | q
            · exact swr_s swc_16 (by omega) (by omega)
            · exact swr_s swc_17 (by omega) (by omega)
          · rcases Nat.lt_or_ge m 19456 with q | q
            · exact swr_s swc_18 (by omega) (by omega)
            · exact swr_s swc_19 (by omega) (by omega)
        · rcases Nat.lt_or_ge m 22528 with q | q
          · rcases Nat.lt_or_ge m 21504 with q | q
            · exact swr_s swc_20 (by omega) (by omega)
            · exact swr_s swc_21 (by omega) (by omega)
          · rcases Nat.lt_or_ge m 23552 with q | q
            · exact swr_s swc_22 (by omega) (by omega)
            · exact swr_s swc_23 (by omega) (by omega)
      · rcases Nat.lt_or_ge m 28672 with q | q
        · rcases Nat.lt_or_ge m 26624 with q | q
          · rcases Nat.lt_or_ge m 25600 with q | q
            · exact swr_s swc_24 (by omega) (by omega)
            · exact swr_s swc_25 (by omega) (by omega)
          · rcases Nat.lt_or_ge m 27648 with q | q
            · exact swr_s swc_26 (by omega) (by omega)
            · exact swr_s swc_27 (by omega) (by omega)
        · rcases Nat.lt_or_ge m 30720 with q | q
          · rcases Nat.lt_or_ge m 29696 with q | q
            · exact swr_s swc_28 (by omega) (by omega)
            · exact swr_s swc_29 (by omega) (by omega)
          · rcases Nat.lt_or_ge m 31744 with q | q
            · exact swr_s swc_30 (by omega) (by omega)
            · exact swr_s swc_31 (by omega) (by omega)
  · rcases Nat.lt_or_ge m 49152 with q | q
    · rcases Nat.lt_or_ge m 40960 with q | q
      · rcases Nat.lt_or_ge m 36864 with q | q
        · rcases Nat.lt_or_ge m 34816 with q | q
          · rcases Nat.lt_or_ge m 33792 with q | q
            · exact swr_s swc_32 (by omega) (by omega)
            · exact swr_s swc_33 (by omega) (by omega)
          · rcases Nat.lt_or_ge m 35840 with q | q
            · exact swr_s swc_34 (by omega) (by omega)
            · exact swr_s swc_35 (by omega) (by omega)
        · rcases Nat.lt_or_ge m 38912 with q | q
          · rcases Nat.lt_or_ge m 37888 with q | q
            · exact swr_s swc_36 (by omega) (by omega)
            · exact swr_s swc_37 (by omega) (by omega)
          · rcases Nat.lt_or_ge m 39936 with q | q
            · exact swr_s swc_38 (by omega) (by omega)
            · exact swr_s swc_39 (by omega) (by omega)
      · rcases Nat.lt_or_ge m 45056 with q | q
        · rcases Nat.lt_or_ge m 43008 with q | q
          · rcases Nat.lt_or_ge m 41984 with q | q
            · exact swr_s swc_40 (by omega) (by omega)
            · exact swr_s swc_41 (by omega) (by omega)
          · rcases Nat.lt_or_ge m 44032 with q | q
            · exact swr_s swc_42 (by omega) (by omega)
            · exact swr_s swc_43 (by omega) (by omega)
        · rcases Nat.lt_or_ge m 47104 with q | q
          · rcases Nat.lt_or_ge m 46080 with q | q
            · exact swr_s swc_44 (by omega) (by omega)
            · exact swr_s swc_45 (by omega) (by omega)
          · rcases Nat.lt_or_ge m 48128 with q | q
            · exact swr_s swc_46 (by omega) (by omega)
            · exact swr_s swc_47 (by omega) (by omega)
    · rcases Nat.lt_or_ge m 57344 with q | q
      · rcases Nat.lt_or_ge m 53248 with q | q
        · rcases Nat.lt_or_ge m 51200 with q | q
          · rcases Nat.lt_or_ge m 50176 with q | q
            · exact swr_s swc_48 (by omega) (by omega)
            · exact swr_s swc_49 (by omega) (by omega)
          · rcases Nat.lt_or_ge m 52224 with q | q
            · exact swr_s swc_50 (by omega) (by omega)
            · exact swr_s swc_51 (by omega) (by omega)
        · rcases Nat.lt_or_ge m 55296 with q | q
          · rcases Nat.lt_or_ge m 54272 with q | q
            · exact swr_s swc_52 (by omega) (by omega)
            · exact swr_s swc_53 (by omega) (by omega)
          · rcases Nat.lt_or_ge m 56320 with q | q
            · exact swr_s swc_54 (by omega) (by omega)
            · exact swr_s swc_55 (by omega) (by omega)
      · rcases Nat.lt_or_ge m 61440 with q | q
        · rcases Nat.lt_or_ge m 59392 with q | q
          · rcases Nat.lt_or_ge m 58368 with q | q
            · exact swr_s swc_56 (by omega) (by omega)
            · exact swr_s swc_57 (by omega) (by omega)
          · rcases Nat.lt_or_ge m 60416 with q | q
            · exact swr_s swc_58 (by omega) (by omega)
            · exact swr_s swc_59 (by omega) (by omega)
        · rcases Nat.lt_or_ge m 63488 with q | q
          · rcases Nat.lt_or_ge m 62464 with q | q
            · exact swr_s swc_60 (by omega) (by omega)
            · exact swr_s swc_61 (by omega) (by omega)
          · rcases Nat.lt_or_ge m 64512 with q | q
            · exact swr_s swc_62 (by omega) (by omega)
            · exact swr_s swc_63 (by omega) (by omega)
theorem bit_c (m k : Nat) : (m >>> k) &&& 1 = if m.testBit k = true then 1 else 0 := by
  cases h : m.testBit k
  · rw [(tb0 m k).mpr h]; rfl
  · rw [(tb1 m k).mpr h]; rfl
theorem popq_c (m : Nat) : popq m = popc m := by
  unfold popq popc
  have h0 : m &&& 1 = (m >>> 0) &&& 1 := rfl
  rw [h0]
  simp only [bit_c, cnt, Nat.zero_add]
theorem ush {k j : Nat} (hk : k < 65536) (hj : j < 32) : ((iI (k : Int)).toUInt32 >>> ((iI (j : Int)).toUInt32 &&& Int32.toUInt32 31)).toInt32 = iI ((k >>> j : Nat) : Int) := by
  rw [iI_n, iI_n, iI_n]
  have hs : ∀ n, n < 32 → (((nI n).toUInt32 &&& Int32.toUInt32 31).toBitVec % 32).toNat = n := by decide +kernel
  apply Int32.toBitVec.inj
  apply BitVec.eq_of_toNat_eq
  show ((nI k).toBitVec >>> (((nI j).toUInt32 &&& Int32.toUInt32 31).toBitVec % 32).toNat).toNat = (BitVec.ofNat 32 (k >>> j)).toNat
  rw [hs j hj, BitVec.toNat_ushiftRight, nI_bv, BitVec.toNat_ofNat, BitVec.toNat_ofNat, Nat.mod_eq_of_lt (by omega), Nat.mod_eq_of_lt]
  exact Nat.lt_of_le_of_lt (Nat.shiftRight_le k j) (by omega)
theorem kJ6_265 : Cond.constant RJ6 265 1431655765 ∈ wsJ6_bitCount_0f7a4 := by decide +kernel
theorem kJ6_266 : Cond.constant RJ6 266 858993459 ∈ wsJ6_bitCount_0f7a4 := by decide +kernel
theorem kJ6_267 : Cond.constant RJ6 267 252645135 ∈ wsJ6_bitCount_0f7a4 := by decide +kernel
set_option maxHeartbeats 4000000 in
set_option maxRecDepth 100000 in
theorem c_bitCount (l : Launch) (D : va_G) (cI cB cZ cO : ClassId) (m1 : Nat) (hm1 : m1 < 65536) : Met l yJ6_bitCount_0f7a4 wsJ6_bitCount_0f7a4 ({ frames := 0, cells := 0, slots := 0, locals := 0 }) (va_Pc [.int (iI ((m1 : Nat) : Int))] (RO D cI cB cZ cO [])) (QO ((popc m1 : Nat) : Int)) 0 0 (fun _ => False) := by
  have hw := sw_all hm1
  unfold swo at hw
  simp only [Bool.and_eq_true] at hw
  obtain ⟨⟨⟨⟨⟨w0, w1⟩, w2⟩, w3⟩, w4⟩, w5⟩ := hw
  have w0 := Nat.le_of_ble_eq_true w0
  have w1 : sw1 m1 < 65536 := Nat.le_of_ble_eq_true w1
  have w2 : sw2 (sw1 m1) < 65536 := Nat.le_of_ble_eq_true w2
  have w3 : sw3 (sw2 (sw1 m1)) < 65536 := Nat.le_of_ble_eq_true w3
  have w4 : sw4 (sw3 (sw2 (sw1 m1))) < 65536 := Nat.le_of_ble_eq_true w4
  have w5 := Nat.eq_of_beq_eq_true w5
  rw [popq_c] at w5
  refine startO (cc := cJ6_bitCount_0f7a4) (maxL := 1) (ret := (some .int)) (by decide) rfl (Nat.le_of_ble_eq_true rfl) ?_
  intro p e s m below meth c S hr hlocks hE hP ls hl
  have hx := S.1
  have hb := S.2.1
  have hown := S.2.2.2.1
  have hts := S.2.2.2.2
  have hl : lv_has ls 1 [(0, .int (iI ((m1 : Nat) : Int)))] := hl
  refine lv_iload_n hx hb dJ6_bitCount_0f7a4_0 rfl (lv_at hl 0 rfl) ?_
  refine lv_iload_n hx hb dJ6_bitCount_0f7a4_1 rfl (lv_at hl 0 rfl) ?_
  refine r_iconst hx hb dJ6_bitCount_0f7a4_2 ?_
  refine lv_iushr (v := iI ((m1 >>> 1 : Nat) : Int)) hx hb dJ6_bitCount_0f7a4_3 (ush (by assumption) (by decide)) ?_
  refine lv_ldcw (v := iI 1431655765) hx hb hown (hts _ kJ6_265) dJ6_bitCount_0f7a4_4 ?_
  refine r_iand hx hb (m1 >>> 1) (1431655765) rfl rfl dJ6_bitCount_0f7a4_7 ?_
  refine r_isub (v := ((sw1 m1 : Nat) : Int)) hx hb (by unfold sw1; omega) dJ6_bitCount_0f7a4_8 ?_
  refine lv_istore_n (lv' := [(0, .int (iI ((sw1 m1 : Nat) : Int)))]) hx hb dJ6_bitCount_0f7a4_9 rfl hl (by decide) rfl (fun ls hl => ?_)
  refine lv_iload_n hx hb dJ6_bitCount_0f7a4_10 rfl (lv_at hl 0 rfl) ?_
  refine lv_ldcw (v := iI 858993459) hx hb hown (hts _ kJ6_266) dJ6_bitCount_0f7a4_11 ?_
  refine r_iand hx hb (sw1 m1) (858993459) rfl rfl dJ6_bitCount_0f7a4_14 ?_
  refine lv_iload_n hx hb dJ6_bitCount_0f7a4_15 rfl (lv_at hl 0 rfl) ?_
  refine r_iconst hx hb dJ6_bitCount_0f7a4_16 ?_
  refine lv_iushr (v := iI (((sw1 m1) >>> 2 : Nat) : Int)) hx hb dJ6_bitCount_0f7a4_17 (ush (by assumption) (by decide)) ?_
  refine lv_ldcw (v := iI 858993459) hx hb hown (hts _ kJ6_266) dJ6_bitCount_0f7a4_18 ?_
  refine r_iand hx hb ((sw1 m1) >>> 2) (858993459) rfl rfl dJ6_bitCount_0f7a4_21 ?_
  refine r_iadd (v := ((sw2 (sw1 m1) : Nat) : Int)) hx hb (rfl) dJ6_bitCount_0f7a4_22 ?_
  refine lv_istore_n (lv' := [(0, .int (iI ((sw2 (sw1 m1) : Nat) : Int)))]) hx hb dJ6_bitCount_0f7a4_23 rfl hl (by decide) rfl (fun ls hl => ?_)
  refine lv_iload_n hx hb dJ6_bitCount_0f7a4_24 rfl (lv_at hl 0 rfl) ?_
  refine lv_iload_n hx hb dJ6_bitCount_0f7a4_25 rfl (lv_at hl 0 rfl) ?_
  refine r_iconst hx hb dJ6_bitCount_0f7a4_26 ?_
  refine lv_iushr (v := iI (((sw2 (sw1 m1)) >>> 4 : Nat) : Int)) hx hb dJ6_bitCount_0f7a4_27 (ush (by assumption) (by decide)) ?_
  refine r_iadd (v := ((sw2 (sw1 m1) + (sw2 (sw1 m1)) >>> 4 : Nat) : Int)) hx hb (rfl) dJ6_bitCount_0f7a4_28 ?_
  refine lv_ldcw (v := iI 252645135) hx hb hown (hts _ kJ6_267) dJ6_bitCount_0f7a4_29 ?_
  refine r_iand hx hb (sw2 (sw1 m1) + (sw2 (sw1 m1)) >>> 4) (252645135) rfl rfl dJ6_bitCount_0f7a4_32 ?_
  refine lv_istore_n (lv' := [(0, .int (iI ((sw3 (sw2 (sw1 m1)) : Nat) : Int)))]) hx hb dJ6_bitCount_0f7a4_33 rfl hl (by decide) rfl (fun ls hl => ?_)
  refine lv_iload_n hx hb dJ6_bitCount_0f7a4_34 rfl (lv_at hl 0 rfl) ?_
  refine lv_iload_n hx hb dJ6_bitCount_0f7a4_35 rfl (lv_at hl 0 rfl) ?_
  refine r_bipush hx hb dJ6_bitCount_0f7a4_36 (by decide) ?_
  refine lv_iushr (v := iI (((sw3 (sw2 (sw1 m1))) >>> 8 : Nat) : Int)) hx hb dJ6_bitCount_0f7a4_38 (ush (by assumption) (by decide)) ?_
  refine r_iadd (v := ((sw4 (sw3 (sw2 (sw1 m1))) : Nat) : Int)) hx hb (rfl) dJ6_bitCount_0f7a4_39 ?_
  refine lv_istore_n (lv' := [(0, .int (iI ((sw4 (sw3 (sw2 (sw1 m1))) : Nat) : Int)))]) hx hb dJ6_bitCount_0f7a4_40 rfl hl (by decide) rfl (fun ls hl => ?_)
  refine lv_iload_n hx hb dJ6_bitCount_0f7a4_41 rfl (lv_at hl 0 rfl) ?_
  refine lv_iload_n hx hb dJ6_bitCount_0f7a4_42 rfl (lv_at hl 0 rfl) ?_
  refine r_bipush hx hb dJ6_bitCount_0f7a4_43 (by decide) ?_
  refine lv_iushr (v := iI (((sw4 (sw3 (sw2 (sw1 m1)))) >>> 16 : Nat) : Int)) hx hb dJ6_bitCount_0f7a4_45 (ush (by assumption) (by decide)) ?_
  refine r_iadd (v := ((sw5 (sw4 (sw3 (sw2 (sw1 m1)))) : Nat) : Int)) hx hb (rfl) dJ6_bitCount_0f7a4_46 ?_
  refine lv_istore_n (lv' := [(0, .int (iI ((sw5 (sw4 (sw3 (sw2 (sw1 m1)))) : Nat) : Int)))]) hx hb dJ6_bitCount_0f7a4_47 rfl hl (by decide) rfl (fun ls hl => ?_)
  refine lv_iload_n hx hb dJ6_bitCount_0f7a4_48 rfl (lv_at hl 0 rfl) ?_
  refine r_bipush hx hb dJ6_bitCount_0f7a4_49 (by decide) ?_
  refine r_iand hx hb (sw5 (sw4 (sw3 (sw2 (sw1 m1))))) (63) rfl rfl dJ6_bitCount_0f7a4_51 ?_
  exact r_iretO hx hb hr hlocks (by rw [w5]) dJ6_bitCount_0f7a4_52
