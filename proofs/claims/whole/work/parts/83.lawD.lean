/-! the law's body and its loop -/
theorem and31 (y : Int32) : ∃ x, x < 32 ∧ y &&& nI 31 = nI x := by
  refine ⟨(y &&& nI 31).toBitVec.toNat, ?_, ?_⟩
  · show (y.toBitVec &&& 31#32).toNat < 32
    rw [BitVec.toNat_and]
    exact Nat.lt_of_le_of_lt Nat.and_le_right (by decide)
  · apply Int32.toBitVec_inj.mp
    show _ = BitVec.ofNat 32 (y &&& nI 31).toBitVec.toNat
    rw [BitVec.ofNat_toNat, BitVec.setWidth_eq]
theorem lw_cmp {i L : Nat} (hL : L ≤ 3072) (hi : i ≤ 4000) : nI L - nI 6 < nI i ↔ L < i + 6 := by
  rw [Int32.lt_iff_toInt_lt, Int32.toInt_sub, nI_toInt (by omega), nI_toInt (by omega), nI_toInt (by omega)]
  rw [Int.bmod_eq_of_le (by omega) (by omega)]
  omega
section LB
variable {p : Program} {l : Launch} {e : Env} {s : State} {m : MethodId} {below : List Frame} {meth : Method} {c : Code} {E : Ev} {b L i : Nat} {xs : Nat → Int32} {A B : Nat → Prop} {ad bd : Nat → Nat} {sc ms : Nat → Int32} {ar ma : Nat → Nat → Int32} {bl : Int64} {la : Nat → Int64} {a0 : Nat}
theorem lw_body (C : LX p s m meth c E b L xs A B) (hi : i + 6 ≤ L) (hA : Oka 39 ad A) (hB : Oka 30 bd B) (h0 : ad 0 = a0) (hr : Rll sc ar bl ms ma) (kk : LK p l e s m below meth c b E A bd a0 i) : GL p l e s m below meth c b E (cw E ad sc ar bl ++ mw E bd ms ma la) 27 (lwL b a0 (bd 0) i) [] := by
  have hL := C.2.2.2.1
  refine g_aload_n C.1 0 dlw_27 rfl rfl ?_
  refine g_iload_n C.1 3 dlw_28 rfl rfl ?_
  refine g_sld C.1 C.2.1 C.2.2.1 (lw_nb C) i (by omega) (by omega) dlw_29 ?_
  refine g_bipush C.1 (v := nI 31) dlw_30 (by decide) ?_
  refine g_iand C.1 dlw_32 ?_
  obtain ⟨n, hn, en⟩ := and31 (xs i)
  refine g_topi en ?_
  match n, hn with
  | 0, hn => exact g_tsw (off := 143) C.1 176 dlw_33 (by decide) (by decide) rfl (by decide) (lw_k0 C hi hA hB h0 hr kk)
  | 1, hn => exact g_tsw (off := 176) C.1 209 dlw_33 (by decide) (by decide) rfl (by decide) (lw_k1 C hi hA hB h0 hr kk)
  | 2, hn => exact g_tsw (off := 209) C.1 242 dlw_33 (by decide) (by decide) rfl (by decide) (lw_k2 C hi hA hB h0 hr kk)
  | 3, hn => exact g_tsw (off := 242) C.1 275 dlw_33 (by decide) (by decide) rfl (by decide) (lw_k3 C hi hA hB h0 hr kk)
  | 4, hn => exact g_tsw (off := 275) C.1 308 dlw_33 (by decide) (by decide) rfl (by decide) (lw_k4 C hi hA hB h0 hr kk)
  | 5, hn => exact g_tsw (off := 328) C.1 361 dlw_33 (by decide) (by decide) rfl (by decide) (lw_k5 C hi hA hB h0 hr kk)
  | 6, hn => exact g_tsw (off := 361) C.1 394 dlw_33 (by decide) (by decide) rfl (by decide) (lw_k6 C hi hA hB h0 hr kk)
  | 7, hn => exact g_tsw (off := 394) C.1 427 dlw_33 (by decide) (by decide) rfl (by decide) (lw_k7 C hi hA hB h0 hr kk)
  | 8, hn => exact g_tsw (off := 427) C.1 460 dlw_33 (by decide) (by decide) rfl (by decide) (lw_k8 C hi hA hB h0 hr kk)
  | 9, hn => exact g_tsw (off := 440) C.1 473 dlw_33 (by decide) (by decide) rfl (by decide) (lw_k9 C hi hA hB h0 hr kk)
  | 10, hn => exact g_tsw (off := 473) C.1 506 dlw_33 (by decide) (by decide) rfl (by decide) (lw_k10 C hi hA hB h0 hr kk)
  | 11, hn => exact g_tsw (off := 516) C.1 549 dlw_33 (by decide) (by decide) rfl (by decide) (lw_k11 C hi hA hB h0 hr kk)
  | 12, hn => exact g_tsw (off := 539) C.1 572 dlw_33 (by decide) (by decide) rfl (by decide) (lw_k12 C hi hA hB h0 hr kk)
  | 13, hn => exact g_tsw (off := 572) C.1 605 dlw_33 (by decide) (by decide) rfl (by decide) (lw_k13 C hi hA hB h0 hr kk)
  | 14, hn => exact g_tsw (off := 605) C.1 638 dlw_33 (by decide) (by decide) rfl (by decide) (lw_k14 C hi hA hB h0 hr kk)
  | 15, hn => exact g_tsw (off := 618) C.1 651 dlw_33 (by decide) (by decide) rfl (by decide) (lw_k15 C hi hA hB h0 hr kk)
  | 16, hn => exact g_tsw (off := 651) C.1 684 dlw_33 (by decide) (by decide) rfl (by decide) (lw_k16 C hi hA hB h0 hr kk)
  | 17, hn => exact g_tsw (off := 684) C.1 717 dlw_33 (by decide) (by decide) rfl (by decide) (lw_k17 C hi hA hB h0 hr kk)
  | 18, hn => exact g_tsw (off := 717) C.1 750 dlw_33 (by decide) (by decide) rfl (by decide) (lw_k18 C hi hA hB h0 hr kk)
  | 19, hn => exact g_tsw (off := 750) C.1 783 dlw_33 (by decide) (by decide) rfl (by decide) (lw_k19 C hi hA hB h0 hr kk)
  | 20, hn => exact g_tsw (off := 793) C.1 826 dlw_33 (by decide) (by decide) rfl (by decide) (lw_k20 C hi hA hB h0 hr kk)
  | 21, hn => exact g_tsw (off := 816) C.1 849 dlw_33 (by decide) (by decide) rfl (by decide) (lw_k21 C hi hA hB h0 hr kk)
  | 22, hn => exact g_tsw (off := 859) C.1 892 dlw_33 (by decide) (by decide) rfl (by decide) (lw_k22 C hi hA hB h0 hr kk)
  | 23, hn => exact g_tsw (off := 882) C.1 915 dlw_33 (by decide) (by decide) rfl (by decide) (lw_k23 C hi hA hB h0 hr kk)
  | 24, hn => exact g_tsw (off := 895) C.1 928 dlw_33 (by decide) (by decide) rfl (by decide) (lw_k24 C hi hA hB h0 hr kk)
  | 25, hn => exact g_tsw (off := 918) C.1 951 dlw_33 (by decide) (by decide) rfl (by decide) (lw_k25 C hi hA hB h0 hr kk)
  | 26, hn => exact g_tsw (off := 961) C.1 994 dlw_33 (by decide) (by decide) rfl (by decide) (lw_k26 C hi hA hB h0 hr kk)
  | 27, hn => exact g_tsw (off := 984) C.1 1017 dlw_33 (by decide) (by decide) rfl (by decide) (lw_k27 C hi hA hB h0 hr kk)
  | 28, hn => exact g_tsw (off := 1017) C.1 1050 dlw_33 (by decide) (by decide) rfl (by decide) (lw_k28 C hi hA hB h0 hr kk)
  | 29, hn => exact g_tsw (off := 1060) C.1 1093 dlw_33 (by decide) (by decide) rfl (by decide) (lw_k29 C hi hA hB h0 hr kk)
  | 30, hn => exact g_tsw (off := 1123) C.1 1156 dlw_33 (by decide) (by decide) rfl (by decide) (lw_k30 C hi hA hB h0 hr kk)
  | 31, hn => exact g_tsw (off := 1146) C.1 1179 dlw_33 (by decide) (by decide) rfl (by decide) (lw_k31 C hi hA hB h0 hr kk)
  | n + 32, hn => exact absurd hn (by omega)
theorem lw_end {ws : va_W} {lv : List (Nat × Value)} (C : LX p s m meth c E b L xs A B) : GL p l e s m below meth c b E ws 1208 lv [] := by
  refine g_iconst C.1 (v := 1) dlw_1208 (by decide) ?_
  exact fun H locs ls h1 h2 h3 => va_forget h2.2.2 (lw_ret C.1.1.1 C.1.1.2.1 C.1.2.2.1 C.1.2.2.2.1 dlw_1209)
theorem lw_loop (C : LX p s m meth c E b L xs A B) (hB : Oka 30 bd B) : ∀ (k i : Nat), L < i + 6 + 6 * k → i ≤ 3900 → ∀ (ad : Nat → Nat) (sc : Nat → Int32) (ar : Nat → Nat → Int32) (bl : Int64) (ms : Nat → Int32) (ma : Nat → Nat → Int32) (la : Nat → Int64), ad 0 = a0 → Oka 39 ad A → Rll sc ar bl ms ma → GL p l e s m below meth c b E (cw E ad sc ar bl ++ mw E bd ms ma la) 18 (lwL b a0 (bd 0) i) [] := by
  have hL := C.2.2.2.1
  intro k
  induction k with
  | zero =>
    intro i hk hi ad sc ar bl ms ma la h0 hA hr
    refine g_iload_n C.1 3 dlw_18 rfl rfl ?_
    refine g_aload_n C.1 0 dlw_19 rfl rfl ?_
    refine g_sln C.1 C.2.1 C.2.2.1 (lw_nb C) dlw_20 ?_
    refine g_bipush C.1 (v := nI 6) dlw_21 (by decide) ?_
    refine g_isub C.1 dlw_23 ?_
    exact g_icmp_gt_t C.1 1208 dlw_24 (by decide) ((lw_cmp hL (by omega)).mpr (by omega)) (lw_end C)
  | succ k ih =>
    intro i hk hi ad sc ar bl ms ma la h0 hA hr
    refine g_iload_n C.1 3 dlw_18 rfl rfl ?_
    refine g_aload_n C.1 0 dlw_19 rfl rfl ?_
    refine g_sln C.1 C.2.1 C.2.2.1 (lw_nb C) dlw_20 ?_
    refine g_bipush C.1 (v := nI 6) dlw_21 (by decide) ?_
    refine g_isub C.1 dlw_23 ?_
    refine g_icmp_gt C.1 1208 dlw_24 (by decide) (fun _ => lw_end C) (fun z => ?_)
    have hi6 : i + 6 ≤ L := by
      rcases Nat.lt_or_ge L (i + 6) with q | q
      · exact absurd ((lw_cmp hL (by omega)).mpr q) z
      · exact q
    refine lw_body C hi6 hA hB h0 hr ?_
    intro ad' sc' ar' bl' ms' ma' la' h0' hA' hr'
    refine g_iinc (v := nI (i + 6)) (lv' := lwL b a0 (bd 0) (i + 6)) C.1 3 dlw_1202 rfl (nI_ofi i 6) (by decide) rfl ?_
    refine g_goto C.1 18 dlw_1205 (by decide) ?_
    exact ih (i + 6) (by omega) (by omega) ad' sc' ar' bl' ms' ma' la' h0' hA' hr'
end LB
