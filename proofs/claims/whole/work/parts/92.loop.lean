set_option maxHeartbeats 8000000 in
set_option maxRecDepth 100000 in
/-- the law's loop -/
theorem law_loop {p : Program} {l : Launch} {e : Env} {s : State} {m : MethodId} {below : List Frame} {meth : Method} {c : Code} {b L : Nat} {xs : Nat → Int32} {D : va_G} {cI cZ : ClassId} {ad1 ad2 : Nat → Nat} {Inv : xS → xS → Prop} (HA : lh_all Inv) (hL : L ≤ 384) (C : lw_C p s m meth c b L xs D cI cZ ad1 ad2) :
    ∀ (n i : Nat), i ≤ L → L + 1 ≤ i + n → ∀ (s1 s2 : xS) (H : Heap) (locs : List Loc), Inv s1 s2 → lw_S s D cI cZ ad1 ad2 s1 s2 H locs → ∀ (ls : Array Slot), lv_has ls 4 [(0, .ref b), (1, .ref (ad1 0)), (2, .ref (ad2 0)), (3, .int (nI i))] → W p l e room_1 s m #[Value.ref b] below meth c H locs 73 2382 (lw_Z below #[Value.ref b] s) (F0 m 18 ls []) := by
  obtain ⟨⟨hx, hb, hr, hml, hown, hts0, hX, hbl, hlocks, hgv⟩, hK, hE1, hE2⟩ := id C
  have hbA : ¬ (fun q : Nat => s.heap.size ≤ q) b := Nat.not_le.mpr hbl
  obtain ⟨h0, h1, h2, h3, h4, h5, h6, h7, h8, h9, h10, h11, h12, h13, h14, h15, h16, h17, h18, h19, h20, h21, h22, h23, h24, h25, h26, h27, h28, h29, h30, h31, h32, h33, h34, h35, h36, h37⟩ := HA
  intro n
  induction n with
  | zero =>
    intro i h1 h2
    exact absurd h2 (by omega)
  | succ n ih =>
    intro i hi hin s1 s2 H locs hI hw ls hl
    have hS : va_S (fun q => s.heap.size ≤ q) s.heap H locs := hw.2.2.2.2.2
    refine lv_iload_n hx hb dL_law_18 rfl (lv_at hl 3 rfl) ?_
    refine lv_aload_n hx hb dL_law_19 rfl (lv_at hl 0 rfl) ?_
    refine va_slen hx hb hX hbl hbA hS dL_law_20 ?_
    refine lv_bipush (v := 6) hx hb dL_law_21 (by decide) ?_
    refine lv_isub hx hb dL_law_23 ?_
    have ht : (Int32.ofNat L - 6).toInt = (L : Int) - 6 := pk_sub_toInt (a := L) (b := 6) (by omega) (by decide)
    have hti : (nI i).toInt = (i : Int) := nI_toInt (by omega)
    refine lv_icmp_gt (tgt := 1262) hx hb dL_law_24 (by decide) (fun q => ?_) (fun q => ?_)
    · refine lv_iconst (v := 1) hx hb dL_law_1262 (by decide) ?_
      refine va_forget (fun q hq => hS.2.2 q hq) ?_
      exact lw_ret hx hb hr hlocks dL_law_1263
    · have hi6 : i + 6 ≤ L := by rw [Int32.lt_iff_toInt_lt, ht, hti] at q; omega
      refine lv_aload_n hx hb dL_law_27 rfl (lv_at hl 0 rfl) ?_
      refine lv_iload_n hx hb dL_law_28 rfl (lv_at hl 3 rfl) ?_
      refine va_sld hx hb hX hbl hbA hS (vp_in_nI (by omega) (by omega)) dL_law_29 ?_
      refine lv_bipush (v := 63) hx hb dL_law_30 (by decide) ?_
      refine lv_iand hx hb dL_law_32 ?_
      have nx : ∀ (t1 t2 : xS) (H : Heap) (locs : List Loc), Inv t1 t2 → lw_S s D cI cZ ad1 ad2 t1 t2 H locs → W p l e room_1 s m #[Value.ref b] below meth c H locs 73 2382 (lw_Z below #[Value.ref b] s) (F0 m 1256 ls []) := by
        intro t1 t2 H locs hI hw
        refine lv_iinc (v := nI (i + 6)) (lv' := [(3, .int (nI (i + 6))), (0, .ref b), (1, .ref (ad1 0)), (2, .ref (ad2 0))]) hx hb dL_law_1256 hl (k := 3) rfl (nI_add i 6) (by decide) rfl (fun ls hl => ?_)
        refine lv_goto (tgt := 18) hx hb dL_law_1259 (by decide) ?_
        exact ih (i + 6) hi6 (by omega) t1 t2 H locs hI hw ls (lv_sub hl [1, 2, 3, 0] rfl)
      obtain ⟨j, hj, hje⟩ := pk_andE (xs (nI i).toNatClampNeg) (m := 63) 6 rfl
      rw [hje]
      by_cases h38 : j < 38
      · have hti2 : (nI j).toInt = (j : Int) := nI_toInt (by omega)
        match j, h38, hti2 with
        | 0, _, hti2 => exact lv_tableIn (tgt := 200) hx hb dL_law_33 (by rw [hti2]; decide) (by rw [hti2]; decide) (by rw [hti2]; rfl) (by decide) (law_type h0 hL C hi6 hI hw hl nx)
        | 1, _, hti2 => exact lv_tableIn (tgt := 233) hx hb dL_law_33 (by rw [hti2]; decide) (by rw [hti2]; decide) (by rw [hti2]; rfl) (by decide) (law_wipe h1 hL C hi6 hI hw hl nx)
        | 2, _, hti2 => exact lv_tableIn (tgt := 256) hx hb dL_law_33 (by rw [hti2]; decide) (by rw [hti2]; decide) (by rw [hti2]; rfl) (by decide) (law_undo h2 hL C hi6 hI hw hl nx)
        | 3, _, hti2 => exact lv_tableIn (tgt := 279) hx hb dL_law_33 (by rw [hti2]; decide) (by rw [hti2]; decide) (by rw [hti2]; rfl) (by decide) (law_fault h3 hL C hi6 hI hw hl nx)
        | 4, _, hti2 => exact lv_tableIn (tgt := 302) hx hb dL_law_33 (by rw [hti2]; decide) (by rw [hti2]; decide) (by rw [hti2]; rfl) (by decide) (law_cell h4 hL C hi6 hI hw hl nx)
        | 5, _, hti2 => exact lv_tableIn (tgt := 325) hx hb dL_law_33 (by rw [hti2]; decide) (by rw [hti2]; decide) (by rw [hti2]; rfl) (by decide) (law_bed h5 hL C hi6 hI hw hl nx)
        | 6, _, hti2 => exact lv_tableIn (tgt := 338) hx hb dL_law_33 (by rw [hti2]; decide) (by rw [hti2]; decide) (by rw [hti2]; rfl) (by decide) (law_deed h6 hL C hi6 hI hw hl nx)
        | 7, _, hti2 => exact lv_tableIn (tgt := 371) hx hb dL_law_33 (by rw [hti2]; decide) (by rw [hti2]; decide) (by rw [hti2]; rfl) (by decide) (law_set h7 hL C hi6 hI hw hl nx)
        | 8, _, hti2 => exact lv_tableIn (tgt := 404) hx hb dL_law_33 (by rw [hti2]; decide) (by rw [hti2]; decide) (by rw [hti2]; rfl) (by decide) (law_thunder h8 hL C hi6 hI hw hl nx)
        | 9, _, hti2 => exact lv_tableIn (tgt := 437) hx hb dL_law_33 (by rw [hti2]; decide) (by rw [hti2]; decide) (by rw [hti2]; rfl) (by decide) (law_back h9 hL C hi6 hI hw hl nx)
        | 10, _, hti2 => exact lv_tableIn (tgt := 450) hx hb dL_law_33 (by rw [hti2]; decide) (by rw [hti2]; decide) (by rw [hti2]; rfl) (by decide) (law_read h10 hL C hi6 hI hw hl nx)
        | 11, _, hti2 => exact lv_tableIn (tgt := 473) hx hb dL_law_33 (by rw [hti2]; decide) (by rw [hti2]; decide) (by rw [hti2]; rfl) (by decide) (law_carry h11 hL C hi6 hI hw hl nx)
        | 12, _, hti2 => exact lv_tableIn (tgt := 516) hx hb dL_law_33 (by rw [hti2]; decide) (by rw [hti2]; decide) (by rw [hti2]; rfl) (by decide) (law_heard h12 hL C hi6 hI hw hl nx)
        | 13, _, hti2 => exact lv_tableIn (tgt := 549) hx hb dL_law_33 (by rw [hti2]; decide) (by rw [hti2]; decide) (by rw [hti2]; rfl) (by decide) (law_noise h13 hL C hi6 hI hw hl nx)
        | 14, _, hti2 => exact lv_tableIn (tgt := 572) hx hb dL_law_33 (by rw [hti2]; decide) (by rw [hti2]; decide) (by rw [hti2]; rfl) (by decide) (law_depth h14 hL C hi6 hI hw hl nx)
        | 15, _, hti2 => exact lv_tableIn (tgt := 595) hx hb dL_law_33 (by rw [hti2]; decide) (by rw [hti2]; decide) (by rw [hti2]; rfl) (by decide) (law_wakes h15 hL C hi6 hI hw hl nx)
        | 16, _, hti2 => exact lv_tableIn (tgt := 608) hx hb dL_law_33 (by rw [hti2]; decide) (by rw [hti2]; decide) (by rw [hti2]; rfl) (by decide) (law_exiled h16 hL C hi6 hI hw hl nx)
        | 17, _, hti2 => exact lv_tableIn (tgt := 631) hx hb dL_law_33 (by rw [hti2]; decide) (by rw [hti2]; decide) (by rw [hti2]; rfl) (by decide) (law_loudest h17 hL C hi6 hI hw hl nx)
        | 18, _, hti2 => exact lv_tableIn (tgt := 644) hx hb dL_law_33 (by rw [hti2]; decide) (by rw [hti2]; decide) (by rw [hti2]; rfl) (by decide) (law_hour h18 hL C hi6 hI hw hl nx)
        | 19, _, hti2 => exact lv_tableIn (tgt := 677) hx hb dL_law_33 (by rw [hti2]; decide) (by rw [hti2]; decide) (by rw [hti2]; rfl) (by decide) (law_felt h19 hL C hi6 hI hw hl nx)
        | 20, _, hti2 => exact lv_tableIn (tgt := 700) hx hb dL_law_33 (by rw [hti2]; decide) (by rw [hti2]; decide) (by rw [hti2]; rfl) (by decide) (law_lay h20 hL C hi6 hI hw hl nx)
        | 21, _, hti2 => exact lv_tableIn (tgt := 723) hx hb dL_law_33 (by rw [hti2]; decide) (by rw [hti2]; decide) (by rw [hti2]; rfl) (by decide) (law_way h21 hL C hi6 hI hw hl nx)
        | 22, _, hti2 => exact lv_tableIn (tgt := 756) hx hb dL_law_33 (by rw [hti2]; decide) (by rw [hti2]; decide) (by rw [hti2]; rfl) (by decide) (law_listened h22 hL C hi6 hI hw hl nx)
        | 23, _, hti2 => exact lv_tableIn (tgt := 789) hx hb dL_law_33 (by rw [hti2]; decide) (by rw [hti2]; decide) (by rw [hti2]; rfl) (by decide) (law_forget h23 hL C hi6 hI hw hl nx)
        | 24, _, hti2 => exact lv_tableIn (tgt := 802) hx hb dL_law_33 (by rw [hti2]; decide) (by rw [hti2]; decide) (by rw [hti2]; rfl) (by decide) (law_never h24 hL C hi6 hI hw hl nx)
        | 25, _, hti2 => exact lv_tableIn (tgt := 815) hx hb dL_law_33 (by rw [hti2]; decide) (by rw [hti2]; decide) (by rw [hti2]; rfl) (by decide) (law_whence h25 hL C hi6 hI hw hl nx)
        | 26, _, hti2 => exact lv_tableIn (tgt := 848) hx hb dL_law_33 (by rw [hti2]; decide) (by rw [hti2]; decide) (by rw [hti2]; rfl) (by decide) (law_what h26 hL C hi6 hI hw hl nx)
        | 27, _, hti2 => exact lv_tableIn (tgt := 871) hx hb dL_law_33 (by rw [hti2]; decide) (by rw [hti2]; decide) (by rw [hti2]; rfl) (by decide) (law_ask h27 hL C hi6 hI hw hl nx)
        | 28, _, hti2 => exact lv_tableIn (tgt := 894) hx hb dL_law_33 (by rw [hti2]; decide) (by rw [hti2]; decide) (by rw [hti2]; rfl) (by decide) (law_sleeps h28 hL C hi6 hI hw hl nx)
        | 29, _, hti2 => exact lv_tableIn (tgt := 928) hx hb dL_law_33 (by rw [hti2]; decide) (by rw [hti2]; decide) (by rw [hti2]; rfl) (by decide) (law_day h29 hL C hi6 hI hw hl nx)
        | 30, _, hti2 => exact lv_tableIn (tgt := 971) hx hb dL_law_33 (by rw [hti2]; decide) (by rw [hti2]; decide) (by rw [hti2]; rfl) (by decide) (law_sheet h30 hL C hi6 hI hw hl nx)
        | 31, _, hti2 => exact lv_tableIn (tgt := 1014) hx hb dL_law_33 (by rw [hti2]; decide) (by rw [hti2]; decide) (by rw [hti2]; rfl) (by decide) (law_lose h31 hL C hi6 hI hw hl nx)
        | 32, _, hti2 => exact lv_tableIn (tgt := 1037) hx hb dL_law_33 (by rw [hti2]; decide) (by rw [hti2]; decide) (by rw [hti2]; rfl) (by decide) (law_put h32 hL C hi6 hI hw hl nx)
        | 33, _, hti2 => exact lv_tableIn (tgt := 1090) hx hb dL_law_33 (by rw [hti2]; decide) (by rw [hti2]; decide) (by rw [hti2]; rfl) (by decide) (law_get h33 hL C hi6 hI hw hl nx)
        | 34, _, hti2 => exact lv_tableIn (tgt := 1133) hx hb dL_law_33 (by rw [hti2]; decide) (by rw [hti2]; decide) (by rw [hti2]; rfl) (by decide) (law_copy h34 hL C hi6 hI hw hl nx)
        | 35, _, hti2 => exact lv_tableIn (tgt := 1196) hx hb dL_law_33 (by rw [hti2]; decide) (by rw [hti2]; decide) (by rw [hti2]; rfl) (by decide) (law_write h35 hL C hi6 hI hw hl nx)
        | 36, _, hti2 => exact lv_tableIn (tgt := 1219) hx hb dL_law_33 (by rw [hti2]; decide) (by rw [hti2]; decide) (by rw [hti2]; rfl) (by decide) (law_count h36 hL C hi6 hI hw hl nx)
        | 37, _, hti2 => exact lv_tableIn (tgt := 1242) hx hb dL_law_33 (by rw [hti2]; decide) (by rw [hti2]; decide) (by rw [hti2]; rfl) (by decide) (law_digest h37 hL C hi6 hI hw hl nx)
        | j + 38, h, _ => exact absurd h (by omega)
      · refine lv_tableOut (tgt := 1256) hx hb dL_law_33 (Or.inr (by rw [nI_toInt (by omega)]; omega)) (by decide) ?_
        exact nx s1 s2 H locs hI hw
