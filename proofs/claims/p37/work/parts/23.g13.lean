def po_X12_tries (τ : Tau)     (u : Tau) : Prop := Inv u ∧ Fr [] [139] τ u
set_option maxHeartbeats 4000000 in
set_option maxRecDepth 100000 in
theorem c_X12_tries (l : Launch) (G : Gx) (τ : Tau) (hI : Inv τ) : Cv l G yX12_tries cX12_tries 2 0 0 [.ref (G.2.2.2.1 131)] τ (po_X12_tries τ    ) := by
  unfold Cv
  refine C_of (own := RX12) (by decide) rfl (Nat.le_of_ble_eq_true rfl) ?_
  intro p e s m below meth c ls S hr hlk X hl
  have hl : lv_has ls 2 [(0, .ref (G.2.2.2.1 131))] := hl
  refine r_iconst S dX12_tries_0 (by decide) (fun v1 z2 => ?_)
  have r3 := R_eq z2
  refine r_istore_n (lv' := [(1, .int v1), (0, .ref (G.2.2.2.1 131))]) S dX12_tries_1 rfl hl (by decide) rfl (fun ls hl => ?_)
  have L796 : ∀ (n : Nat) (t792 : Tau) (H : Heap) (lc : List Loc) (ls : Array Slot) (i790 : Int32), Xd G s H lc t792 → Inv t792 → Fr [] [139] τ t792 → R (0) (207) i790 → lv_has ls 2 [(0, .ref (G.2.2.2.1 131)), (1, .int i790)] → (207 - i790.toInt).toNat < n → W p l e (Rm 0 0) s m ([.ref (G.2.2.2.1 131)] : List Value).toArray below meth c H lc 0 0 (MQ below (va_Qv (po_X12_tries τ    ) (Bs G) G.2.2.2.2) ([.ref (G.2.2.2.1 131)] : List Value).toArray s 0 0 G.2.2.2.2) (F0 m 2 ls []) := by
    intro n
    induction n with
    | zero => intros; omega
    | succ n ih797 =>
      intro t792 H lc ls i790 X795 I793 F794 r791 hl hm
      refine r_iload_n S dX12_tries_2 rfl (lv_at hl 1 rfl) ?_
      refine r_sipush S dX12_tries_3 (by decide) (fun v798 z799 => ?_)
      have r800 := R_eq z799
      refine r_icmp_ge (tgt := 30) S dX12_tries_6 (by decide) (fun c801 => ?_) (fun c801 => ?_)
      ·
        have r802 : R (207) (207) i790 := ⟨by omega, by omega⟩
        exact r_vret S hr hlk X795 ⟨I793, F794⟩ dX12_tries_30
      ·
        have r803 : R (0) (206) i790 := ⟨by omega, by omega⟩
        refine r_aload_n S dX12_tries_9 rfl (lv_at hl 0 rfl) ?_
        refine r_get (K := 38) (v := .ref (G.2.2.2.1 139)) S X795 (Nat.le_of_ble_eq_true rfl) rfl lk12_53_10 (fun _ => ⟨_, rfl, rfl⟩) dX12_tries_10 ?_
        refine r_iload_n S dX12_tries_13 rfl (lv_at hl 1 rfl) ?_
        refine r_aload_n S dX12_tries_14 rfl (lv_at hl 0 rfl) ?_
        refine r_get (K := 38) (v := .ref (G.2.2.2.1 133)) S X795 (Nat.le_of_ble_eq_true rfl) rfl lk12_33_10 (fun _ => ⟨_, rfl, rfl⟩) dX12_tries_15 ?_
        refine r_bipush S dX12_tries_18 (by decide) (fun v804 z805 => ?_)
        have r806 := R_eq z805
        refine r_iload_n S dX12_tries_20 rfl (lv_at hl 1 rfl) ?_
        refine r_iadd S dX12_tries_21 (fun v807 z808 => ?_)
        obtain ⟨e809, r810⟩ := i_add (lo := 125) (hi := 331) z808 r806 r803 rfl
        refine r_aldn (n := 513) (K := 40) S X795 (Nat.le_of_ble_eq_true rfl) rfl (fun _ => rfl) (ix_of r810 rfl) dX12_tries_22 (fun v811 z812 => ?_)
        have r814 := R_any v811
        have g815 : Rg 40 v807.toNatClampNeg v811 := rd I793 rfl z812
        refine r_ast (n := 207) (K := 46) S X795 (Nat.le_of_ble_eq_true rfl) rfl (fun _ _ => rfl) (ix_of r803 rfl) dX12_tries_23 (fun t816 H lc M817 X818 => ?_)
        have I819 := Inv_mu I793 M817 (show Rg (kd 139) _ v811 from seg_c (K := 46) (K2 := 40) (a := 125) (b := 0) (n := 207) g815 (R_of r810 rfl) (by omega) (by decide +kernel))
        have F820 : Fr [] [139] τ t816 := Fr_cell F794 M817 (by decide)
        refine r_iinc (k := 1) S dX12_tries_24 hl rfl (by decide) (by decide) (fun v821 d822 ls z823 z824 hl => ?_)
        obtain ⟨e825, r826⟩ := i_add (lo := 1) (hi := 207) z823 r803 (R_eq z824) rfl
        have hl : lv_has ls 2 [(1, .int v821), (0, .ref (G.2.2.2.1 131))] := hl
        refine r_goto (tgt := 2) S dX12_tries_27 (by decide) ?_
        exact ih797 t816 _ _ _ v821 X818 I819 F820 (R_of r826 rfl) (lv_sub hl [1, 0] rfl) (by omega)
  exact L796 _ τ _ _ _ v1 X hI Fr_rfl (R_of r3 rfl) (lv_sub hl [1, 0] rfl) (Nat.lt_succ_self _)
def po_X12_back (τ : Tau)     (u : Tau) : Prop := Inv u ∧ Fr [(133, 125), (133, 126), (133, 127), (133, 128), (133, 129), (133, 130), (133, 131), (133, 132), (133, 133), (133, 134), (133, 135), (133, 136), (133, 137), (133, 138), (133, 139), (133, 140), (133, 141), (133, 142), (133, 143), (133, 144), (133, 145), (133, 146), (133, 147), (133, 148), (133, 149), (133, 150), (133, 151), (133, 152), (133, 153), (133, 154), (133, 155), (133, 156), (133, 157), (133, 158), (133, 159), (133, 160), (133, 161), (133, 162), (133, 163), (133, 164), (133, 165), (133, 166), (133, 167), (133, 168), (133, 169), (133, 170), (133, 171), (133, 172), (133, 173), (133, 174), (133, 175), (133, 176), (133, 177), (133, 178), (133, 179), (133, 180), (133, 181), (133, 182), (133, 183), (133, 184), (133, 185), (133, 186), (133, 187), (133, 188), (133, 189), (133, 190), (133, 191), (133, 192), (133, 193), (133, 194), (133, 195), (133, 196), (133, 197), (133, 198), (133, 199), (133, 200), (133, 201), (133, 202), (133, 203), (133, 204), (133, 205), (133, 206), (133, 207), (133, 208), (133, 209), (133, 210), (133, 211), (133, 212), (133, 213), (133, 214), (133, 215), (133, 216), (133, 217), (133, 218), (133, 219), (133, 220), (133, 221), (133, 222), (133, 223), (133, 224), (133, 225), (133, 226), (133, 227), (133, 228), (133, 229), (133, 230), (133, 231), (133, 232), (133, 233), (133, 234), (133, 235), (133, 236), (133, 237), (133, 238), (133, 239), (133, 240), (133, 241), (133, 242), (133, 243), (133, 244), (133, 245), (133, 246), (133, 247), (133, 248), (133, 249), (133, 250), (133, 251), (133, 252), (133, 253), (133, 254), (133, 255), (133, 256), (133, 257), (133, 258), (133, 259), (133, 260), (133, 261), (133, 262), (133, 263), (133, 264), (133, 265), (133, 266), (133, 267), (133, 268), (133, 269), (133, 270), (133, 271), (133, 272), (133, 273), (133, 274), (133, 275), (133, 276), (133, 277), (133, 278), (133, 279), (133, 280), (133, 281), (133, 282), (133, 283), (133, 284), (133, 285), (133, 286), (133, 287), (133, 288), (133, 289), (133, 290), (133, 291), (133, 292), (133, 293), (133, 294), (133, 295), (133, 296), (133, 297), (133, 298), (133, 299), (133, 300), (133, 301), (133, 302), (133, 303), (133, 304), (133, 305), (133, 306), (133, 307), (133, 308), (133, 309), (133, 310), (133, 311), (133, 312), (133, 313), (133, 314), (133, 315), (133, 316), (133, 317), (133, 318), (133, 319), (133, 320), (133, 321), (133, 322), (133, 323), (133, 324), (133, 325), (133, 326), (133, 327), (133, 328), (133, 329), (133, 330), (133, 331)] [] τ u
set_option maxHeartbeats 4000000 in
set_option maxRecDepth 100000 in
theorem c_X12_back (l : Launch) (G : Gx) (τ : Tau) (hI : Inv τ) : Cv l G yX12_back cX12_back 2 0 0 [.ref (G.2.2.2.1 131)] τ (po_X12_back τ    ) := by
  unfold Cv
  refine C_of (own := RX12) (by decide) rfl (Nat.le_of_ble_eq_true rfl) ?_
  intro p e s m below meth c ls S hr hlk X hl
  have hl : lv_has ls 2 [(0, .ref (G.2.2.2.1 131))] := hl
  refine r_iconst S dX12_back_0 (by decide) (fun v1 z2 => ?_)
  have r3 := R_eq z2
  refine r_istore_n (lv' := [(1, .int v1), (0, .ref (G.2.2.2.1 131))]) S dX12_back_1 rfl hl (by decide) rfl (fun ls hl => ?_)
  have L796 : ∀ (n : Nat) (t792 : Tau) (H : Heap) (lc : List Loc) (ls : Array Slot) (i790 : Int32), Xd G s H lc t792 → Inv t792 → Fr [(133, 125), (133, 126), (133, 127), (133, 128), (133, 129), (133, 130), (133, 131), (133, 132), (133, 133), (133, 134), (133, 135), (133, 136), (133, 137), (133, 138), (133, 139), (133, 140), (133, 141), (133, 142), (133, 143), (133, 144), (133, 145), (133, 146), (133, 147), (133, 148), (133, 149), (133, 150), (133, 151), (133, 152), (133, 153), (133, 154), (133, 155), (133, 156), (133, 157), (133, 158), (133, 159), (133, 160), (133, 161), (133, 162), (133, 163), (133, 164), (133, 165), (133, 166), (133, 167), (133, 168), (133, 169), (133, 170), (133, 171), (133, 172), (133, 173), (133, 174), (133, 175), (133, 176), (133, 177), (133, 178), (133, 179), (133, 180), (133, 181), (133, 182), (133, 183), (133, 184), (133, 185), (133, 186), (133, 187), (133, 188), (133, 189), (133, 190), (133, 191), (133, 192), (133, 193), (133, 194), (133, 195), (133, 196), (133, 197), (133, 198), (133, 199), (133, 200), (133, 201), (133, 202), (133, 203), (133, 204), (133, 205), (133, 206), (133, 207), (133, 208), (133, 209), (133, 210), (133, 211), (133, 212), (133, 213), (133, 214), (133, 215), (133, 216), (133, 217), (133, 218), (133, 219), (133, 220), (133, 221), (133, 222), (133, 223), (133, 224), (133, 225), (133, 226), (133, 227), (133, 228), (133, 229), (133, 230), (133, 231), (133, 232), (133, 233), (133, 234), (133, 235), (133, 236), (133, 237), (133, 238), (133, 239), (133, 240), (133, 241), (133, 242), (133, 243), (133, 244), (133, 245), (133, 246), (133, 247), (133, 248), (133, 249), (133, 250), (133, 251), (133, 252), (133, 253), (133, 254), (133, 255), (133, 256), (133, 257), (133, 258), (133, 259), (133, 260), (133, 261), (133, 262), (133, 263), (133, 264), (133, 265), (133, 266), (133, 267), (133, 268), (133, 269), (133, 270), (133, 271), (133, 272), (133, 273), (133, 274), (133, 275), (133, 276), (133, 277), (133, 278), (133, 279), (133, 280), (133, 281), (133, 282), (133, 283), (133, 284), (133, 285), (133, 286), (133, 287), (133, 288), (133, 289), (133, 290), (133, 291), (133, 292), (133, 293), (133, 294), (133, 295), (133, 296), (133, 297), (133, 298), (133, 299), (133, 300), (133, 301), (133, 302), (133, 303), (133, 304), (133, 305), (133, 306), (133, 307), (133, 308), (133, 309), (133, 310), (133, 311), (133, 312), (133, 313), (133, 314), (133, 315), (133, 316), (133, 317), (133, 318), (133, 319), (133, 320), (133, 321), (133, 322), (133, 323), (133, 324), (133, 325), (133, 326), (133, 327), (133, 328), (133, 329), (133, 330), (133, 331)] [] τ t792 → R (0) (207) i790 → lv_has ls 2 [(0, .ref (G.2.2.2.1 131)), (1, .int i790)] → (207 - i790.toInt).toNat < n → W p l e (Rm 0 0) s m ([.ref (G.2.2.2.1 131)] : List Value).toArray below meth c H lc 0 0 (MQ below (va_Qv (po_X12_back τ    ) (Bs G) G.2.2.2.2) ([.ref (G.2.2.2.1 131)] : List Value).toArray s 0 0 G.2.2.2.2) (F0 m 2 ls []) := by
    intro n
    induction n with
    | zero => intros; omega
    | succ n ih797 =>
      intro t792 H lc ls i790 X795 I793 F794 r791 hl hm
      refine r_iload_n S dX12_back_2 rfl (lv_at hl 1 rfl) ?_
      refine r_sipush S dX12_back_3 (by decide) (fun v798 z799 => ?_)
      have r800 := R_eq z799
      refine r_icmp_ge (tgt := 30) S dX12_back_6 (by decide) (fun c801 => ?_) (fun c801 => ?_)
      ·
        have r802 : R (207) (207) i790 := ⟨by omega, by omega⟩
        exact r_vret S hr hlk X795 ⟨I793, F794⟩ dX12_back_30
      ·
        have r803 : R (0) (206) i790 := ⟨by omega, by omega⟩
        refine r_aload_n S dX12_back_9 rfl (lv_at hl 0 rfl) ?_
        refine r_get (K := 38) (v := .ref (G.2.2.2.1 133)) S X795 (Nat.le_of_ble_eq_true rfl) rfl lk12_33_10 (fun _ => ⟨_, rfl, rfl⟩) dX12_back_10 ?_
        refine r_bipush S dX12_back_13 (by decide) (fun v804 z805 => ?_)
        have r806 := R_eq z805
        refine r_iload_n S dX12_back_15 rfl (lv_at hl 1 rfl) ?_
        refine r_iadd S dX12_back_16 (fun v807 z808 => ?_)
        obtain ⟨e809, r810⟩ := i_add (lo := 125) (hi := 331) z808 r806 r803 rfl
        refine r_aload_n S dX12_back_17 rfl (lv_at hl 0 rfl) ?_
        refine r_get (K := 38) (v := .ref (G.2.2.2.1 139)) S X795 (Nat.le_of_ble_eq_true rfl) rfl lk12_53_10 (fun _ => ⟨_, rfl, rfl⟩) dX12_back_18 ?_
        refine r_iload_n S dX12_back_21 rfl (lv_at hl 1 rfl) ?_
        refine r_aldn (n := 207) (K := 46) S X795 (Nat.le_of_ble_eq_true rfl) rfl (fun _ => rfl) (ix_of r803 rfl) dX12_back_22 (fun v811 z812 => ?_)
        have r814 := R_any v811
        have g815 : Rg 46 i790.toNatClampNeg v811 := rd I793 rfl z812
        refine r_ast (n := 513) (K := 40) S X795 (Nat.le_of_ble_eq_true rfl) rfl (fun _ _ => rfl) (ix_of r810 rfl) dX12_back_23 (fun t816 H lc M817 X818 => ?_)
        have I819 := Inv_mu I793 M817 (show Rg (kd 133) _ v811 from seg_c (K := 40) (K2 := 46) (a := 0) (b := 125) (n := 207) g815 (R_of r803 rfl) (by omega) (by decide +kernel))
        have F820 : Fr [(133, 125), (133, 126), (133, 127), (133, 128), (133, 129), (133, 130), (133, 131), (133, 132), (133, 133), (133, 134), (133, 135), (133, 136), (133, 137), (133, 138), (133, 139), (133, 140), (133, 141), (133, 142), (133, 143), (133, 144), (133, 145), (133, 146), (133, 147), (133, 148), (133, 149), (133, 150), (133, 151), (133, 152), (133, 153), (133, 154), (133, 155), (133, 156), (133, 157), (133, 158), (133, 159), (133, 160), (133, 161), (133, 162), (133, 163), (133, 164), (133, 165), (133, 166), (133, 167), (133, 168), (133, 169), (133, 170), (133, 171), (133, 172), (133, 173), (133, 174), (133, 175), (133, 176), (133, 177), (133, 178), (133, 179), (133, 180), (133, 181), (133, 182), (133, 183), (133, 184), (133, 185), (133, 186), (133, 187), (133, 188), (133, 189), (133, 190), (133, 191), (133, 192), (133, 193), (133, 194), (133, 195), (133, 196), (133, 197), (133, 198), (133, 199), (133, 200), (133, 201), (133, 202), (133, 203), (133, 204), (133, 205), (133, 206), (133, 207), (133, 208), (133, 209), (133, 210), (133, 211), (133, 212), (133, 213), (133, 214), (133, 215), (133, 216), (133, 217), (133, 218), (133, 219), (133, 220), (133, 221), (133, 222), (133, 223), (133, 224), (133, 225), (133, 226), (133, 227), (133, 228), (133, 229), (133, 230), (133, 231), (133, 232), (133, 233), (133, 234), (133, 235), (133, 236), (133, 237), (133, 238), (133, 239), (133, 240), (133, 241), (133, 242), (133, 243), (133, 244), (133, 245), (133, 246), (133, 247), (133, 248), (133, 249), (133, 250), (133, 251), (133, 252), (133, 253), (133, 254), (133, 255), (133, 256), (133, 257), (133, 258), (133, 259), (133, 260), (133, 261), (133, 262), (133, 263), (133, 264), (133, 265), (133, 266), (133, 267), (133, 268), (133, 269), (133, 270), (133, 271), (133, 272), (133, 273), (133, 274), (133, 275), (133, 276), (133, 277), (133, 278), (133, 279), (133, 280), (133, 281), (133, 282), (133, 283), (133, 284), (133, 285), (133, 286), (133, 287), (133, 288), (133, 289), (133, 290), (133, 291), (133, 292), (133, 293), (133, 294), (133, 295), (133, 296), (133, 297), (133, 298), (133, 299), (133, 300), (133, 301), (133, 302), (133, 303), (133, 304), (133, 305), (133, 306), (133, 307), (133, 308), (133, 309), (133, 310), (133, 311), (133, 312), (133, 313), (133, 314), (133, 315), (133, 316), (133, 317), (133, 318), (133, 319), (133, 320), (133, 321), (133, 322), (133, 323), (133, 324), (133, 325), (133, 326), (133, 327), (133, 328), (133, 329), (133, 330), (133, 331)] [] τ t816 := Fr_mus (a := 125) (n := 207) F794 M817 (R_of r810 rfl) (by decide +kernel)
        refine r_iinc (k := 1) S dX12_back_24 hl rfl (by decide) (by decide) (fun v821 d822 ls z823 z824 hl => ?_)
        obtain ⟨e825, r826⟩ := i_add (lo := 1) (hi := 207) z823 r803 (R_eq z824) rfl
        have hl : lv_has ls 2 [(1, .int v821), (0, .ref (G.2.2.2.1 131))] := hl
        refine r_goto (tgt := 2) S dX12_back_27 (by decide) ?_
        exact ih797 t816 _ _ _ v821 X818 I819 F820 (R_of r826 rfl) (lv_sub hl [1, 0] rfl) (by omega)
  exact L796 _ τ _ _ _ v1 X hI Fr_rfl (R_of r3 rfl) (lv_sub hl [1, 0] rfl) (Nat.lt_succ_self _)
def po_X12_keep (τ : Tau)     (u : Tau) : Prop := Inv u ∧ Fr [(131, 24)] [138] τ u
set_option maxHeartbeats 4000000 in
set_option maxRecDepth 100000 in
theorem c_X12_keep (l : Launch) (G : Gx) (τ : Tau) (hI : Inv τ) : Cv l G yX12_keep cX12_keep 2 0 0 [.ref (G.2.2.2.1 131)] τ (po_X12_keep τ    ) := by
  unfold Cv
  refine C_of (own := RX12) (by decide) rfl (Nat.le_of_ble_eq_true rfl) ?_
  intro p e s m below meth c ls S hr hlk X hl
  have hl : lv_has ls 2 [(0, .ref (G.2.2.2.1 131))] := hl
  refine r_aload_n S dX12_keep_0 rfl (lv_at hl 0 rfl) ?_
  refine r_getn (K := 38) S X (Nat.le_of_ble_eq_true rfl) rfl lk12_249_10 (fun _ => ⟨_, rfl, rfl⟩) dX12_keep_1 (fun v1 z2 => ?_)
  have r3 : R (0) (8) v1 := rd hI rfl z2
  refine r_bipush S dX12_keep_4 (by decide) (fun v4 z5 => ?_)
  have r6 := R_eq z5
  refine r_icmp_ne (tgt := 46) S dX12_keep_6 (by decide) (fun c7 => ?_) (fun c7 => ?_)
  ·
    have r8 : R (0) (7) v1 := ⟨by omega, by omega⟩
    refine r_iconst S dX12_keep_46 (by decide) (fun v9 z10 => ?_)
    have r11 := R_eq z10
    refine r_istore_n (lv' := [(1, .int v9), (0, .ref (G.2.2.2.1 131))]) S dX12_keep_47 rfl hl (by decide) rfl (fun ls hl => ?_)
    have L1116 : ∀ (n : Nat) (t1111 : Tau) (H : Heap) (lc : List Loc) (ls : Array Slot) (i1109 : Int32), Xd G s H lc t1111 → Inv t1111 → Fr [(131, 24)] [138] τ t1111 → R (0) (207) i1109 → t1111 131 24 = v1 → lv_has ls 2 [(0, .ref (G.2.2.2.1 131)), (1, .int i1109)] → (207 - i1109.toInt).toNat < n → W p l e (Rm 0 0) s m ([.ref (G.2.2.2.1 131)] : List Value).toArray below meth c H lc 0 0 (MQ below (va_Qv (po_X12_keep τ    ) (Bs G) G.2.2.2.2) ([.ref (G.2.2.2.1 131)] : List Value).toArray s 0 0 G.2.2.2.2) (F0 m 48 ls []) := by
      intro n
      induction n with
      | zero => intros; omega
      | succ n ih1117 =>
        intro t1111 H lc ls i1109 X1114 I1112 F1113 r1110 z1115 hl hm
        refine r_iload_n S dX12_keep_48 rfl (lv_at hl 1 rfl) ?_
        refine r_sipush S dX12_keep_49 (by decide) (fun v1118 z1119 => ?_)
        have r1120 := R_eq z1119
        refine r_icmp_ge (tgt := 85) S dX12_keep_52 (by decide) (fun c1121 => ?_) (fun c1121 => ?_)
        ·
          have r1122 : R (207) (207) i1109 := ⟨by omega, by omega⟩
          refine r_aload_n S dX12_keep_85 rfl (lv_at hl 0 rfl) ?_
          refine r_dup S dX12_keep_86 rfl ?_
          refine r_geti (K := 38) S X1114 (Nat.le_of_ble_eq_true rfl) rfl lk12_249_10 (fun _ => ⟨_, rfl, rfl⟩) z1115 dX12_keep_87 ?_
          refine r_iconst S dX12_keep_90 (by decide) (fun v1123 z1124 => ?_)
          have r1125 := R_eq z1124
          refine r_iadd S dX12_keep_91 (fun v1126 z1127 => ?_)
          obtain ⟨e1128, r1129⟩ := i_add (lo := 1) (hi := 8) z1127 r8 r1125 rfl
          refine r_put (K := 38) (ty := .int) S X1114 (Nat.le_of_ble_eq_true rfl) rfl lk12_249_10 (fun _ => ⟨_, rfl, Nat.le_of_ble_eq_true rfl, rfl⟩) (fun _ _ _ h => by cases h; exact ⟨rfl, rfl⟩) rfl rfl dX12_keep_92 (fun t1130 H lc M1131 X1132 => ?_)
          have I1133 := Inv_mu I1112 M1131 (show Rg (kd 131) 24 v1126 from (R_of (lo := 0) (hi := 8) r1129 rfl))
          have F1134 : Fr [(131, 24)] [138] τ t1130 := Fr_mu F1113 M1131 (by decide)
          exact r_vret S hr hlk X1132 ⟨I1133, F1134⟩ dX12_keep_95
        ·
          have r1135 : R (0) (206) i1109 := ⟨by omega, by omega⟩
          refine r_aload_n S dX12_keep_55 rfl (lv_at hl 0 rfl) ?_
          refine r_get (K := 38) (v := .ref (G.2.2.2.1 138)) S X1114 (Nat.le_of_ble_eq_true rfl) rfl lk12_50_10 (fun _ => ⟨_, rfl, rfl⟩) dX12_keep_56 ?_
          refine r_sipush S dX12_keep_59 (by decide) (fun v1136 z1137 => ?_)
          have r1138 := R_eq z1137
          refine r_aload_n S dX12_keep_62 rfl (lv_at hl 0 rfl) ?_
          refine r_geti (K := 38) S X1114 (Nat.le_of_ble_eq_true rfl) rfl lk12_249_10 (fun _ => ⟨_, rfl, rfl⟩) z1115 dX12_keep_63 ?_
          refine r_imul S dX12_keep_66 (fun v1139 z1140 => ?_)
          obtain ⟨e1141, r1142⟩ := i_mul (lo := 0) (hi := 1449) z1140 r1138 r8 rfl rfl
          have e1143 : v1139.toInt = 207 * v1.toInt := by rw [e1141, show v1136.toInt = 207 by omega]
          refine r_iload_n S dX12_keep_67 rfl (lv_at hl 1 rfl) ?_
          refine r_iadd S dX12_keep_68 (fun v1144 z1145 => ?_)
          obtain ⟨e1146, r1147⟩ := i_add (lo := 0) (hi := 1655) z1145 r1142 r1135 rfl
          refine r_aload_n S dX12_keep_69 rfl (lv_at hl 0 rfl) ?_
          refine r_get (K := 38) (v := .ref (G.2.2.2.1 133)) S X1114 (Nat.le_of_ble_eq_true rfl) rfl lk12_33_10 (fun _ => ⟨_, rfl, rfl⟩) dX12_keep_70 ?_
          refine r_bipush S dX12_keep_73 (by decide) (fun v1148 z1149 => ?_)
          have r1150 := R_eq z1149
          refine r_iload_n S dX12_keep_75 rfl (lv_at hl 1 rfl) ?_
          refine r_iadd S dX12_keep_76 (fun v1151 z1152 => ?_)
          obtain ⟨e1153, r1154⟩ := i_add (lo := 125) (hi := 331) z1152 r1150 r1135 rfl
          refine r_aldn (n := 513) (K := 40) S X1114 (Nat.le_of_ble_eq_true rfl) rfl (fun _ => rfl) (ix_of r1154 rfl) dX12_keep_77 (fun v1155 z1156 => ?_)
          have r1158 := R_any v1155
          have g1159 : Rg 40 v1151.toNatClampNeg v1155 := rd I1112 rfl z1156
          refine r_ast (n := 1656) (K := 45) S X1114 (Nat.le_of_ble_eq_true rfl) rfl (fun _ _ => rfl) (ix_of r1147 rfl) dX12_keep_78 (fun t1160 H lc M1161 X1162 => ?_)
          have I1163 := Inv_mu I1112 M1161 (show Rg (kd 138) _ v1155 from seg_to (K := 45) (K2 := 40) (c := 125) (m := 207) (U := 8) (n := 207) (u := v1) (k := i1109) g1159 (R_of r8 rfl) (R_of r1135 rfl) (by omega) (by omega) (by decide +kernel))
          have F1164 : Fr [(131, 24)] [138] τ t1160 := Fr_cell F1113 M1161 (by decide)
          refine r_iinc (k := 1) S dX12_keep_79 hl rfl (by decide) (by decide) (fun v1165 d1166 ls z1167 z1168 hl => ?_)
          obtain ⟨e1169, r1170⟩ := i_add (lo := 1) (hi := 207) z1167 r1135 (R_eq z1168) rfl
          have hl : lv_has ls 2 [(1, .int v1165), (0, .ref (G.2.2.2.1 131))] := hl
          refine r_goto (tgt := 48) S dX12_keep_82 (by decide) ?_
          exact ih1117 t1160 _ _ _ v1165 X1162 I1163 F1164 (R_of r1170 rfl) ((M1161.2 131 24 (Or.inl (by decide))).trans z1115) (lv_sub hl [1, 0] rfl) (by omega)
    exact L1116 _ τ _ _ _ v9 X hI Fr_rfl (R_of r11 rfl) z2 (lv_sub hl [1, 0] rfl) (Nat.lt_succ_self _)
  ·
    have r1171 : R (8) (8) v1 := ⟨by omega, by omega⟩
    refine r_iconst S dX12_keep_9 (by decide) (fun v1172 z1173 => ?_)
    have r1174 := R_eq z1173
    refine r_istore_n (lv' := [(1, .int v1172), (0, .ref (G.2.2.2.1 131))]) S dX12_keep_10 rfl hl (by decide) rfl (fun ls hl => ?_)
    have L2433 : ∀ (n : Nat) (t2428 : Tau) (H : Heap) (lc : List Loc) (ls : Array Slot) (i2426 : Int32), Xd G s H lc t2428 → Inv t2428 → Fr [(131, 24)] [138] τ t2428 → R (0) (1449) i2426 → t2428 131 24 = v1 → lv_has ls 2 [(0, .ref (G.2.2.2.1 131)), (1, .int i2426)] → (1449 - i2426.toInt).toNat < n → W p l e (Rm 0 0) s m ([.ref (G.2.2.2.1 131)] : List Value).toArray below meth c H lc 0 0 (MQ below (va_Qv (po_X12_keep τ    ) (Bs G) G.2.2.2.2) ([.ref (G.2.2.2.1 131)] : List Value).toArray s 0 0 G.2.2.2.2) (F0 m 11 ls []) := by
      intro n
      induction n with
      | zero => intros; omega
      | succ n ih2434 =>
        intro t2428 H lc ls i2426 X2431 I2429 F2430 r2427 z2432 hl hm
        refine r_iload_n S dX12_keep_11 rfl (lv_at hl 1 rfl) ?_
        refine r_sipush S dX12_keep_12 (by decide) (fun v2435 z2436 => ?_)
        have r2437 := R_eq z2436
        refine r_icmp_ge (tgt := 40) S dX12_keep_15 (by decide) (fun c2438 => ?_) (fun c2438 => ?_)
        ·
          have r2439 : R (1449) (1449) i2426 := ⟨by omega, by omega⟩
          refine r_aload_n S dX12_keep_40 rfl (lv_at hl 0 rfl) ?_
          refine r_bipush S dX12_keep_41 (by decide) (fun v2440 z2441 => ?_)
          have r2442 := R_eq z2441
          refine r_put (K := 38) (ty := .int) S X2431 (Nat.le_of_ble_eq_true rfl) rfl lk12_249_10 (fun _ => ⟨_, rfl, Nat.le_of_ble_eq_true rfl, rfl⟩) (fun _ _ _ h => by cases h; exact ⟨rfl, rfl⟩) rfl rfl dX12_keep_43 (fun t2443 H lc M2444 X2445 => ?_)
          have I2446 := Inv_mu I2429 M2444 (show Rg (kd 131) 24 v2440 from (R_of (lo := 0) (hi := 8) r2442 rfl))
          have F2447 : Fr [(131, 24)] [138] τ t2443 := Fr_mu F2430 M2444 (by decide)
          refine r_iconst S dX12_keep_46 (by decide) (fun v2448 z2449 => ?_)
          have r2450 := R_eq z2449
          refine r_istore_n (lv' := [(1, .int v2448), (0, .ref (G.2.2.2.1 131))]) S dX12_keep_47 rfl hl (by decide) rfl (fun ls hl => ?_)
          have L3555 : ∀ (n : Nat) (t3550 : Tau) (H : Heap) (lc : List Loc) (ls : Array Slot) (i3548 : Int32), Xd G s H lc t3550 → Inv t3550 → Fr [(131, 24)] [138] τ t3550 → R (0) (207) i3548 → t3550 131 24 = v2440 → lv_has ls 2 [(0, .ref (G.2.2.2.1 131)), (1, .int i3548)] → (207 - i3548.toInt).toNat < n → W p l e (Rm 0 0) s m ([.ref (G.2.2.2.1 131)] : List Value).toArray below meth c H lc 0 0 (MQ below (va_Qv (po_X12_keep τ    ) (Bs G) G.2.2.2.2) ([.ref (G.2.2.2.1 131)] : List Value).toArray s 0 0 G.2.2.2.2) (F0 m 48 ls []) := by
            intro n
            induction n with
            | zero => intros; omega
            | succ n ih3556 =>
              intro t3550 H lc ls i3548 X3553 I3551 F3552 r3549 z3554 hl hm
              refine r_iload_n S dX12_keep_48 rfl (lv_at hl 1 rfl) ?_
              refine r_sipush S dX12_keep_49 (by decide) (fun v3557 z3558 => ?_)
              have r3559 := R_eq z3558
              refine r_icmp_ge (tgt := 85) S dX12_keep_52 (by decide) (fun c3560 => ?_) (fun c3560 => ?_)
              ·
                have r3561 : R (207) (207) i3548 := ⟨by omega, by omega⟩
                refine r_aload_n S dX12_keep_85 rfl (lv_at hl 0 rfl) ?_
                refine r_dup S dX12_keep_86 rfl ?_
                refine r_geti (K := 38) S X3553 (Nat.le_of_ble_eq_true rfl) rfl lk12_249_10 (fun _ => ⟨_, rfl, rfl⟩) z3554 dX12_keep_87 ?_
                refine r_iconst S dX12_keep_90 (by decide) (fun v3562 z3563 => ?_)
                have r3564 := R_eq z3563
                refine r_iadd S dX12_keep_91 (fun v3565 z3566 => ?_)
                obtain ⟨e3567, r3568⟩ := i_add (lo := 8) (hi := 8) z3566 r2442 r3564 rfl
                refine r_put (K := 38) (ty := .int) S X3553 (Nat.le_of_ble_eq_true rfl) rfl lk12_249_10 (fun _ => ⟨_, rfl, Nat.le_of_ble_eq_true rfl, rfl⟩) (fun _ _ _ h => by cases h; exact ⟨rfl, rfl⟩) rfl rfl dX12_keep_92 (fun t3569 H lc M3570 X3571 => ?_)
                have I3572 := Inv_mu I3551 M3570 (show Rg (kd 131) 24 v3565 from (R_of (lo := 0) (hi := 8) r3568 rfl))
                have F3573 : Fr [(131, 24)] [138] τ t3569 := Fr_mu F3552 M3570 (by decide)
                exact r_vret S hr hlk X3571 ⟨I3572, F3573⟩ dX12_keep_95
              ·
                have r3574 : R (0) (206) i3548 := ⟨by omega, by omega⟩
                refine r_aload_n S dX12_keep_55 rfl (lv_at hl 0 rfl) ?_
                refine r_get (K := 38) (v := .ref (G.2.2.2.1 138)) S X3553 (Nat.le_of_ble_eq_true rfl) rfl lk12_50_10 (fun _ => ⟨_, rfl, rfl⟩) dX12_keep_56 ?_
                refine r_sipush S dX12_keep_59 (by decide) (fun v3575 z3576 => ?_)
                have r3577 := R_eq z3576
                refine r_aload_n S dX12_keep_62 rfl (lv_at hl 0 rfl) ?_
                refine r_geti (K := 38) S X3553 (Nat.le_of_ble_eq_true rfl) rfl lk12_249_10 (fun _ => ⟨_, rfl, rfl⟩) z3554 dX12_keep_63 ?_
                refine r_imul S dX12_keep_66 (fun v3578 z3579 => ?_)
                obtain ⟨e3580, r3581⟩ := i_mul (lo := 1449) (hi := 1449) z3579 r3577 r2442 rfl rfl
                have e3582 : v3578.toInt = 207 * v2440.toInt := by rw [e3580, show v3575.toInt = 207 by omega]
                refine r_iload_n S dX12_keep_67 rfl (lv_at hl 1 rfl) ?_
                refine r_iadd S dX12_keep_68 (fun v3583 z3584 => ?_)
                obtain ⟨e3585, r3586⟩ := i_add (lo := 1449) (hi := 1655) z3584 r3581 r3574 rfl
                refine r_aload_n S dX12_keep_69 rfl (lv_at hl 0 rfl) ?_
                refine r_get (K := 38) (v := .ref (G.2.2.2.1 133)) S X3553 (Nat.le_of_ble_eq_true rfl) rfl lk12_33_10 (fun _ => ⟨_, rfl, rfl⟩) dX12_keep_70 ?_
                refine r_bipush S dX12_keep_73 (by decide) (fun v3587 z3588 => ?_)
                have r3589 := R_eq z3588
                refine r_iload_n S dX12_keep_75 rfl (lv_at hl 1 rfl) ?_
                refine r_iadd S dX12_keep_76 (fun v3590 z3591 => ?_)
                obtain ⟨e3592, r3593⟩ := i_add (lo := 125) (hi := 331) z3591 r3589 r3574 rfl
                refine r_aldn (n := 513) (K := 40) S X3553 (Nat.le_of_ble_eq_true rfl) rfl (fun _ => rfl) (ix_of r3593 rfl) dX12_keep_77 (fun v3594 z3595 => ?_)
                have r3597 := R_any v3594
                have g3598 : Rg 40 v3590.toNatClampNeg v3594 := rd I3551 rfl z3595
                refine r_ast (n := 1656) (K := 45) S X3553 (Nat.le_of_ble_eq_true rfl) rfl (fun _ _ => rfl) (ix_of r3586 rfl) dX12_keep_78 (fun t3599 H lc M3600 X3601 => ?_)
                have I3602 := Inv_mu I3551 M3600 (show Rg (kd 138) _ v3594 from seg_c (K := 45) (K2 := 40) (a := 125) (b := 1449) (n := 207) g3598 (R_of r3593 rfl) (by omega) (by decide +kernel))
                have F3603 : Fr [(131, 24)] [138] τ t3599 := Fr_cell F3552 M3600 (by decide)
                refine r_iinc (k := 1) S dX12_keep_79 hl rfl (by decide) (by decide) (fun v3604 d3605 ls z3606 z3607 hl => ?_)
                obtain ⟨e3608, r3609⟩ := i_add (lo := 1) (hi := 207) z3606 r3574 (R_eq z3607) rfl
                have hl : lv_has ls 2 [(1, .int v3604), (0, .ref (G.2.2.2.1 131))] := hl
                refine r_goto (tgt := 48) S dX12_keep_82 (by decide) ?_
                exact ih3556 t3599 _ _ _ v3604 X3601 I3602 F3603 (R_of r3609 rfl) ((M3600.2 131 24 (Or.inl (by decide))).trans z3554) (lv_sub hl [1, 0] rfl) (by omega)
          exact L3555 _ t2443 _ _ _ v2448 X2445 I2446 F2447 (R_of r2450 rfl) M2444.1 (lv_sub hl [1, 0] rfl) (Nat.lt_succ_self _)
        ·
          have r3610 : R (0) (1448) i2426 := ⟨by omega, by omega⟩
          refine r_aload_n S dX12_keep_18 rfl (lv_at hl 0 rfl) ?_
          refine r_get (K := 38) (v := .ref (G.2.2.2.1 138)) S X2431 (Nat.le_of_ble_eq_true rfl) rfl lk12_50_10 (fun _ => ⟨_, rfl, rfl⟩) dX12_keep_19 ?_
          refine r_iload_n S dX12_keep_22 rfl (lv_at hl 1 rfl) ?_
          refine r_aload_n S dX12_keep_23 rfl (lv_at hl 0 rfl) ?_
          refine r_get (K := 38) (v := .ref (G.2.2.2.1 138)) S X2431 (Nat.le_of_ble_eq_true rfl) rfl lk12_50_10 (fun _ => ⟨_, rfl, rfl⟩) dX12_keep_24 ?_
          refine r_iload_n S dX12_keep_27 rfl (lv_at hl 1 rfl) ?_
          refine r_sipush S dX12_keep_28 (by decide) (fun v3611 z3612 => ?_)
          have r3613 := R_eq z3612
          refine r_iadd S dX12_keep_31 (fun v3614 z3615 => ?_)
          obtain ⟨e3616, r3617⟩ := i_add (lo := 207) (hi := 1655) z3615 r3610 r3613 rfl
          refine r_aldn (n := 1656) (K := 45) S X2431 (Nat.le_of_ble_eq_true rfl) rfl (fun _ => rfl) (ix_of r3617 rfl) dX12_keep_32 (fun v3618 z3619 => ?_)
          have r3621 := R_any v3618
          have g3622 : Rg 45 v3614.toNatClampNeg v3618 := rd I2429 rfl z3619
          refine r_ast (n := 1656) (K := 45) S X2431 (Nat.le_of_ble_eq_true rfl) rfl (fun _ _ => rfl) (ix_of r3610 rfl) dX12_keep_33 (fun t3623 H lc M3624 X3625 => ?_)
          have I3626 := Inv_mu I2429 M3624 (show Rg (kd 138) _ v3618 from seg_c (K := 45) (K2 := 45) (a := 207) (b := 0) (n := 1449) g3622 (R_of r3617 rfl) (by omega) (by decide +kernel))
          have F3627 : Fr [(131, 24)] [138] τ t3623 := Fr_cell F2430 M3624 (by decide)
          refine r_iinc (k := 1) S dX12_keep_34 hl rfl (by decide) (by decide) (fun v3628 d3629 ls z3630 z3631 hl => ?_)
          obtain ⟨e3632, r3633⟩ := i_add (lo := 1) (hi := 1449) z3630 r3610 (R_eq z3631) rfl
          have hl : lv_has ls 2 [(1, .int v3628), (0, .ref (G.2.2.2.1 131))] := hl
          refine r_goto (tgt := 11) S dX12_keep_37 (by decide) ?_
          exact ih2434 t3623 _ _ _ v3628 X3625 I3626 F3627 (R_of r3633 rfl) ((M3624.2 131 24 (Or.inl (by decide))).trans z2432) (lv_sub hl [1, 0] rfl) (by omega)
    exact L2433 _ τ _ _ _ v1172 X hI Fr_rfl (R_of r1174 rfl) z2 (lv_sub hl [1, 0] rfl) (Nat.lt_succ_self _)
def po_X12_undo (τ : Tau)     (r : Int32) (u : Tau) : Prop := Inv u ∧ Fr [(131, 0), (131, 24)] [133] τ u
set_option maxHeartbeats 4000000 in
set_option maxRecDepth 100000 in
theorem c_X12_undo (l : Launch) (G : Gx) (τ : Tau) (hI : Inv τ) : Ci l G yX12_undo cX12_undo 2 (some .int) 0 0 [.ref (G.2.2.2.1 131)] τ (po_X12_undo τ    ) := by
  unfold Ci
  refine C_of (own := RX12) (by decide) rfl (Nat.le_of_ble_eq_true rfl) ?_
  intro p e s m below meth c ls S hr hlk X hl
  have hl : lv_has ls 2 [(0, .ref (G.2.2.2.1 131))] := hl
  refine r_aload_n S dX12_undo_0 rfl (lv_at hl 0 rfl) ?_
  refine r_iconst S dX12_undo_1 (by decide) (fun v1 z2 => ?_)
  have r3 := R_eq z2
  refine r_put (K := 38) (ty := .int) S X (Nat.le_of_ble_eq_true rfl) rfl lk12_1_10 (fun _ => ⟨_, rfl, Nat.le_of_ble_eq_true rfl, rfl⟩) (fun _ _ _ h => by cases h; exact ⟨rfl, rfl⟩) rfl rfl dX12_undo_2 (fun t4 H lc M5 X6 => ?_)
  have I7 := Inv_mu hI M5 (R_any v1)
  have F8 : Fr [(131, 0), (131, 24)] [133] τ t4 := Fr_mu Fr_rfl M5 (by decide)
  refine r_aload_n S dX12_undo_5 rfl (lv_at hl 0 rfl) ?_
  refine r_getn (K := 38) S X6 (Nat.le_of_ble_eq_true rfl) rfl lk12_249_10 (fun _ => ⟨_, rfl, rfl⟩) dX12_undo_6 (fun v9 z10 => ?_)
  have r11 : R (0) (8) v9 := rd I7 rfl z10
  refine r_if_ne (tgt := 14) S dX12_undo_9 (by decide) (fun c12 => ?_) (fun c12 => ?_)
  ·
    have r13 : R (1) (8) v9 := ⟨by omega, by omega⟩
    refine r_aload_n S dX12_undo_14 rfl (lv_at hl 0 rfl) ?_
    refine r_dup S dX12_undo_15 rfl ?_
    refine r_geti (K := 38) S X6 (Nat.le_of_ble_eq_true rfl) rfl lk12_249_10 (fun _ => ⟨_, rfl, rfl⟩) z10 dX12_undo_16 ?_
    refine r_iconst S dX12_undo_19 (by decide) (fun v14 z15 => ?_)
    have r16 := R_eq z15
    refine r_isub S dX12_undo_20 (fun v17 z18 => ?_)
    obtain ⟨e19, r20⟩ := i_sub (lo := 0) (hi := 7) z18 r13 r16 rfl
    refine r_put (K := 38) (ty := .int) S X6 (Nat.le_of_ble_eq_true rfl) rfl lk12_249_10 (fun _ => ⟨_, rfl, Nat.le_of_ble_eq_true rfl, rfl⟩) (fun _ _ _ h => by cases h; exact ⟨rfl, rfl⟩) rfl rfl dX12_undo_21 (fun t21 H lc M22 X23 => ?_)
    have I24 := Inv_mu I7 M22 (show Rg (kd 131) 24 v17 from (R_of (lo := 0) (hi := 8) r20 rfl))
    have F25 : Fr [(131, 0), (131, 24)] [133] τ t21 := Fr_mu F8 M22 (by decide)
    refine r_iconst S dX12_undo_24 (by decide) (fun v26 z27 => ?_)
    have r28 := R_eq z27
    refine r_istore_n (lv' := [(1, .int v26), (0, .ref (G.2.2.2.1 131))]) S dX12_undo_25 rfl hl (by decide) rfl (fun ls hl => ?_)
    have L1162 : ∀ (n : Nat) (t1156 : Tau) (H : Heap) (lc : List Loc) (ls : Array Slot) (i1154 : Int32), Xd G s H lc t1156 → Inv t1156 → Fr [(131, 0), (131, 24)] [133] τ t1156 → R (0) (207) i1154 → t1156 131 0 = v1 → t1156 131 24 = v17 → lv_has ls 2 [(0, .ref (G.2.2.2.1 131)), (1, .int i1154)] → (207 - i1154.toInt).toNat < n → W p l e (Rm 0 0) s m ([.ref (G.2.2.2.1 131)] : List Value).toArray below meth c H lc 0 0 (MQ below (va_Qi (po_X12_undo τ    ) (Bs G) G.2.2.2.2) ([.ref (G.2.2.2.1 131)] : List Value).toArray s 0 0 G.2.2.2.2) (F0 m 26 ls []) := by
      intro n
      induction n with
      | zero => intros; omega
      | succ n ih1163 =>
        intro t1156 H lc ls i1154 X1159 I1157 F1158 r1155 z1160 z1161 hl hm
        refine r_iload_n S dX12_undo_26 rfl (lv_at hl 1 rfl) ?_
        refine r_sipush S dX12_undo_27 (by decide) (fun v1164 z1165 => ?_)
        have r1166 := R_eq z1165
        refine r_icmp_ge (tgt := 63) S dX12_undo_30 (by decide) (fun c1167 => ?_) (fun c1167 => ?_)
        ·
          have r1168 : R (207) (207) i1154 := ⟨by omega, by omega⟩
          refine r_aload_n S dX12_undo_63 rfl (lv_at hl 0 rfl) ?_
          refine r_geti (K := 38) S X1159 (Nat.le_of_ble_eq_true rfl) rfl lk12_249_10 (fun _ => ⟨_, rfl, rfl⟩) z1161 dX12_undo_64 ?_
          exact r_ret S hr hlk X1159 ⟨I1157, F1158⟩ rfl dX12_undo_67
        ·
          have r1169 : R (0) (206) i1154 := ⟨by omega, by omega⟩
          refine r_aload_n S dX12_undo_33 rfl (lv_at hl 0 rfl) ?_
          refine r_get (K := 38) (v := .ref (G.2.2.2.1 133)) S X1159 (Nat.le_of_ble_eq_true rfl) rfl lk12_33_10 (fun _ => ⟨_, rfl, rfl⟩) dX12_undo_34 ?_
          refine r_bipush S dX12_undo_37 (by decide) (fun v1170 z1171 => ?_)
          have r1172 := R_eq z1171
          refine r_iload_n S dX12_undo_39 rfl (lv_at hl 1 rfl) ?_
          refine r_iadd S dX12_undo_40 (fun v1173 z1174 => ?_)
          obtain ⟨e1175, r1176⟩ := i_add (lo := 125) (hi := 331) z1174 r1172 r1169 rfl
          refine r_aload_n S dX12_undo_41 rfl (lv_at hl 0 rfl) ?_
          refine r_get (K := 38) (v := .ref (G.2.2.2.1 138)) S X1159 (Nat.le_of_ble_eq_true rfl) rfl lk12_50_10 (fun _ => ⟨_, rfl, rfl⟩) dX12_undo_42 ?_
          refine r_sipush S dX12_undo_45 (by decide) (fun v1177 z1178 => ?_)
          have r1179 := R_eq z1178
          refine r_aload_n S dX12_undo_48 rfl (lv_at hl 0 rfl) ?_
          refine r_geti (K := 38) S X1159 (Nat.le_of_ble_eq_true rfl) rfl lk12_249_10 (fun _ => ⟨_, rfl, rfl⟩) z1161 dX12_undo_49 ?_
          refine r_imul S dX12_undo_52 (fun v1180 z1181 => ?_)
          obtain ⟨e1182, r1183⟩ := i_mul (lo := 0) (hi := 1449) z1181 r1179 r20 rfl rfl
          have e1184 : v1180.toInt = 207 * v17.toInt := by rw [e1182, show v1177.toInt = 207 by omega]
          refine r_iload_n S dX12_undo_53 rfl (lv_at hl 1 rfl) ?_
          refine r_iadd S dX12_undo_54 (fun v1185 z1186 => ?_)
          obtain ⟨e1187, r1188⟩ := i_add (lo := 0) (hi := 1655) z1186 r1183 r1169 rfl
          refine r_aldn (n := 1656) (K := 45) S X1159 (Nat.le_of_ble_eq_true rfl) rfl (fun _ => rfl) (ix_of r1188 rfl) dX12_undo_55 (fun v1189 z1190 => ?_)
          have r1192 := R_any v1189
          have g1193 : Rg 45 v1185.toNatClampNeg v1189 := rd I1157 rfl z1190
          refine r_ast (n := 513) (K := 40) S X1159 (Nat.le_of_ble_eq_true rfl) rfl (fun _ _ => rfl) (ix_of r1176 rfl) dX12_undo_56 (fun t1194 H lc M1195 X1196 => ?_)
          have I1197 := Inv_mu I1157 M1195 (show Rg (kd 133) _ v1189 from seg_fr (K := 40) (K2 := 45) (c := 125) (m := 207) (U := 8) (n := 207) (u := v17) (k := i1154) g1193 (R_of r20 rfl) (R_of r1169 rfl) (by omega) (by omega) (by decide +kernel))
          have F1198 : Fr [(131, 0), (131, 24)] [133] τ t1194 := Fr_cell F1158 M1195 (by decide)
          refine r_iinc (k := 1) S dX12_undo_57 hl rfl (by decide) (by decide) (fun v1199 d1200 ls z1201 z1202 hl => ?_)
          obtain ⟨e1203, r1204⟩ := i_add (lo := 1) (hi := 207) z1201 r1169 (R_eq z1202) rfl
          have hl : lv_has ls 2 [(1, .int v1199), (0, .ref (G.2.2.2.1 131))] := hl
          refine r_goto (tgt := 26) S dX12_undo_60 (by decide) ?_
          exact ih1163 t1194 _ _ _ v1199 X1196 I1197 F1198 (R_of r1204 rfl) ((M1195.2 131 0 (Or.inl (by decide))).trans z1160) ((M1195.2 131 24 (Or.inl (by decide))).trans z1161) (lv_sub hl [1, 0] rfl) (by omega)
    exact L1162 _ t21 _ _ _ v26 X23 I24 F25 (R_of r28 rfl) ((M22.2 131 0 (Or.inr (by decide))).trans M5.1) M22.1 (lv_sub hl [1, 0] rfl) (Nat.lt_succ_self _)
  ·
    have r1205 : R (0) (0) v9 := ⟨by omega, by omega⟩
    refine r_iconst S dX12_undo_12 (by decide) (fun v1206 z1207 => ?_)
    have r1208 := R_eq z1207
    exact r_ret S hr hlk X6 ⟨I7, F8⟩ rfl dX12_undo_13
def po_X12_image (τ : Tau)  (a0 : Int32)   (r : Int32) (u : Tau) : Prop := Inv u ∧ Fr [(131, 0)] [150, 152, 351] τ u ∧ R (0) (1) r
set_option maxHeartbeats 4000000 in
set_option maxRecDepth 100000 in
theorem c_X12_image (l : Launch) (G : Gx) (τ : Tau) (hI : Inv τ) (a0 : Int32) (h_a0 : R (-2147483648) (2147483647) a0) : Ci l G yX12_image cX12_image 3 (some .boolean) 1 22 [.ref (G.2.2.2.1 131), .int a0] τ (po_X12_image τ  a0  ) := by
  unfold Ci
  refine C_of (own := RX12) (by decide) rfl (Nat.le_of_ble_eq_true rfl) ?_
  intro p e s m below meth c ls S hr hlk X hl
  have hl : lv_has ls 3 [(0, .ref (G.2.2.2.1 131)), (1, .int a0)] := hl
  refine r_aload_n S dX12_image_0 rfl (lv_at hl 0 rfl) ?_
  refine r_iconst S dX12_image_1 (by decide) (fun v1 z2 => ?_)
  have r3 := R_eq z2
  refine r_put (K := 38) (ty := .int) S X (Nat.le_of_ble_eq_true rfl) rfl lk12_1_10 (fun _ => ⟨_, rfl, Nat.le_of_ble_eq_true rfl, rfl⟩) (fun _ _ _ h => by cases h; exact ⟨rfl, rfl⟩) rfl rfl dX12_image_2 (fun t4 H lc M5 X6 => ?_)
  have I7 := Inv_mu hI M5 (R_any v1)
  have F8 : Fr [(131, 0)] [150, 152, 351] τ t4 := Fr_mu Fr_rfl M5 (by decide)
  refine r_iload_n S dX12_image_5 rfl (lv_at hl 1 rfl) ?_
  refine r_iconst S dX12_image_6 (by decide) (fun v9 z10 => ?_)
  have r11 := R_eq z10
  refine r_iconst S dX12_image_7 (by decide) (fun v12 z13 => ?_)
  have r14 := R_eq z13
  refine r_ki (q_S (As := [.int a0, .int v9, .int v12]) (rest := []) S X6 (c_X12_isIn l G t4 I7 a0 v9 v12 h_a0 (R_of (lo := -2147483648) (hi := 2147483647) r11 rfl) (R_of (lo := -2147483648) (hi := 2147483647) r14 rfl)) ck12_189 ⟨Nat.le_of_ble_eq_true rfl, Nat.le_of_ble_eq_true rfl⟩ rfl hl.1 rfl (Nat.le_of_ble_eq_true rfl) dX12_image_8 ⟨Nat.le_refl 0, Nat.le_refl 0⟩) X6 (fun v18 t17 H lc q15 X16 => ?_)
  unfold po_X12_isIn at q15
  obtain ⟨q19, q20, q21⟩ := q15
  rw [q19] at X16
  refine r_if_ne (tgt := 16) S dX12_image_11 (by decide) (fun c22 => ?_) (fun c22 => ?_)
  ·
    have r23 : R (1) (1) v18 := ⟨by omega, by omega⟩
    obtain ⟨p24, p25⟩ := q21 (by omega)
    have r26 : R (0) (1) a0 := ⟨by omega, by omega⟩
    refine r_iconst S dX12_image_16 (by decide) (fun v27 z28 => ?_)
    have r29 := R_eq z28
    refine r_istore_n (lv' := [(2, .int v27), (0, .ref (G.2.2.2.1 131)), (1, .int a0)]) S dX12_image_17 rfl hl (by decide) rfl (fun ls hl => ?_)
    have L1160 : ∀ (n : Nat) (t1155 : Tau) (H : Heap) (lc : List Loc) (ls : Array Slot) (i1153 : Int32), Xd G s H lc t1155 → Inv t1155 → Fr [(131, 0)] [150, 152, 351] τ t1155 → R (0) (513) i1153 → t1155 131 0 = v1 → lv_has ls 3 [(0, .ref (G.2.2.2.1 131)), (1, .int a0), (2, .int i1153)] → (513 - i1153.toInt).toNat < n → W p l e (Rm 1 22) s m ([.ref (G.2.2.2.1 131), .int a0] : List Value).toArray below meth c H lc 0 0 (MQ below (va_Qi (po_X12_image τ  a0  ) (Bs G) G.2.2.2.2) ([.ref (G.2.2.2.1 131), .int a0] : List Value).toArray s 0 0 G.2.2.2.2) (F0 m 18 ls []) := by
      intro n
      induction n with
      | zero => intros; omega
      | succ n ih1161 =>
        intro t1155 H lc ls i1153 X1158 I1156 F1157 r1154 z1159 hl hm
        refine r_iload_n S dX12_image_18 rfl (lv_at hl 2 rfl) ?_
        refine r_sipush S dX12_image_19 (by decide) (fun v1162 z1163 => ?_)
        have r1164 := R_eq z1163
        refine r_icmp_ge (tgt := 49) S dX12_image_22 (by decide) (fun c1165 => ?_) (fun c1165 => ?_)
        ·
          have r1166 : R (513) (513) i1153 := ⟨by omega, by omega⟩
          refine r_iconst S dX12_image_49 (by decide) (fun v1167 z1168 => ?_)
          have r1169 := R_eq z1168
          refine r_istore_n (lv' := [(2, .int v1167), (0, .ref (G.2.2.2.1 131)), (1, .int a0)]) S dX12_image_50 rfl hl (by decide) rfl (fun ls hl => ?_)
          have L1499 : ∀ (n : Nat) (t1494 : Tau) (H : Heap) (lc : List Loc) (ls : Array Slot) (i1492 : Int32), Xd G s H lc t1494 → Inv t1494 → Fr [(131, 0)] [150, 152, 351] τ t1494 → R (0) (19) i1492 → t1494 131 0 = v1 → lv_has ls 3 [(0, .ref (G.2.2.2.1 131)), (1, .int a0), (2, .int i1492)] → (19 - i1492.toInt).toNat < n → W p l e (Rm 1 22) s m ([.ref (G.2.2.2.1 131), .int a0] : List Value).toArray below meth c H lc 0 0 (MQ below (va_Qi (po_X12_image τ  a0  ) (Bs G) G.2.2.2.2) ([.ref (G.2.2.2.1 131), .int a0] : List Value).toArray s 0 0 G.2.2.2.2) (F0 m 51 ls []) := by
            intro n
            induction n with
            | zero => intros; omega
            | succ n ih1500 =>
              intro t1494 H lc ls i1492 X1497 I1495 F1496 r1493 z1498 hl hm
              refine r_iload_n S dX12_image_51 rfl (lv_at hl 2 rfl) ?_
              refine r_bipush S dX12_image_52 (by decide) (fun v1501 z1502 => ?_)
              have r1503 := R_eq z1502
              refine r_icmp_ge (tgt := 80) S dX12_image_54 (by decide) (fun c1504 => ?_) (fun c1504 => ?_)
              ·
                have r1505 : R (19) (19) i1492 := ⟨by omega, by omega⟩
                refine r_aload_n S dX12_image_80 rfl (lv_at hl 0 rfl) ?_
                refine r_get (K := 38) (v := .ref (G.2.2.2.1 152)) S X1497 (Nat.le_of_ble_eq_true rfl) rfl lk12_96_10 (fun _ => ⟨_, rfl, rfl⟩) dX12_image_81 ?_
                refine r_iload_n S dX12_image_84 rfl (lv_at hl 1 rfl) ?_
                refine r_iconst S dX12_image_85 (by decide) (fun v1506 z1507 => ?_)
                have r1508 := R_eq z1507
                refine r_zast (n := 2) (K := 59) S X1497 (Nat.le_of_ble_eq_true rfl) rfl (fun _ _ => rfl) (ix_of r26 rfl) (R_of (lo := 0) (hi := 1) r1508 rfl) dX12_image_86 (fun t1509 H lc M1510 X1511 => ?_)
                have I1512 := Inv_mu I1495 M1510 (show Rg (kd 152) _ v1506 from (R_of (lo := 0) (hi := 1) r1508 rfl))
                have F1513 : Fr [(131, 0)] [150, 152, 351] τ t1509 := Fr_cell F1496 M1510 (by decide)
                refine r_iconst S dX12_image_87 (by decide) (fun v1514 z1515 => ?_)
                have r1516 := R_eq z1515
                exact r_ret S hr hlk X1511 ⟨I1512, F1513, (R_of r1516 rfl)⟩ (nr_bool (R_of (lo := 0) (hi := 1) r1516 rfl)) dX12_image_88
              ·
                have r1517 : R (0) (18) i1492 := ⟨by omega, by omega⟩
                refine r_aload_n S dX12_image_57 rfl (lv_at hl 0 rfl) ?_
                refine r_get (K := 38) (v := .ref (G.2.2.2.1 151)) S X1497 (Nat.le_of_ble_eq_true rfl) rfl lk12_93_10 (fun _ => ⟨_, rfl, rfl⟩) dX12_image_58 ?_
                refine r_bipush S dX12_image_61 (by decide) (fun v1518 z1519 => ?_)
                have r1520 := R_eq z1519
                refine r_iload_n S dX12_image_63 rfl (lv_at hl 1 rfl) ?_
                refine r_imul S dX12_image_64 (fun v1521 z1522 => ?_)
                obtain ⟨e1523, r1524⟩ := i_mul (lo := 0) (hi := 19) z1522 r1520 r26 rfl rfl
                have e1525 : v1521.toInt = 19 * a0.toInt := by rw [e1523, show v1518.toInt = 19 by omega]
                refine r_iload_n S dX12_image_65 rfl (lv_at hl 2 rfl) ?_
                refine r_iadd S dX12_image_66 (fun v1526 z1527 => ?_)
                obtain ⟨e1528, r1529⟩ := i_add (lo := 0) (hi := 37) z1527 r1524 r1517 rfl
                refine r_aload_n S dX12_image_67 rfl (lv_at hl 0 rfl) ?_
                refine r_get (K := 38) (v := .ref (G.2.2.2.1 136)) S X1497 (Nat.le_of_ble_eq_true rfl) rfl lk12_43_10 (fun _ => ⟨_, rfl, rfl⟩) dX12_image_68 ?_
                refine r_iload_n S dX12_image_71 rfl (lv_at hl 2 rfl) ?_
                refine r_lald (n := 38) (K := 43) S X1497 (Nat.le_of_ble_eq_true rfl) rfl (fun _ => rfl) (ix_of r1517 rfl) dX12_image_72 (fun j1530 z1531 => ?_)
                refine r_last (n := 38) (K := 58) S X1497 (Nat.le_of_ble_eq_true rfl) rfl (fun _ => rfl) (ix_of r1529 rfl) dX12_image_73 (fun t1533 H lc M1534 X1532 => ?_)
                have I1535 := Inv_ml I1495 M1534
                have F1536 : Fr [(131, 0)] [150, 152, 351] τ t1533 := Fr_ml F1496 M1534 (by decide)
                refine r_iinc (k := 2) S dX12_image_74 hl rfl (by decide) (by decide) (fun v1537 d1538 ls z1539 z1540 hl => ?_)
                obtain ⟨e1541, r1542⟩ := i_add (lo := 1) (hi := 19) z1539 r1517 (R_eq z1540) rfl
                have hl : lv_has ls 3 [(2, .int v1537), (0, .ref (G.2.2.2.1 131)), (1, .int a0)] := hl
                refine r_goto (tgt := 51) S dX12_image_77 (by decide) ?_
                exact ih1500 t1533 _ _ _ v1537 X1532 I1535 F1536 (R_of r1542 rfl) ((M1534.1 131 (by decide) 0).trans z1498) (lv_sub hl [1, 2, 0] rfl) (by omega)
          exact L1499 _ t1155 _ _ _ v1167 X1158 I1156 F1157 (R_of r1169 rfl) z1159 (lv_sub hl [1, 2, 0] rfl) (Nat.lt_succ_self _)
        ·
          have r1543 : R (0) (512) i1153 := ⟨by omega, by omega⟩
          refine r_aload_n S dX12_image_25 rfl (lv_at hl 0 rfl) ?_
          refine r_get (K := 38) (v := .ref (G.2.2.2.1 150)) S X1158 (Nat.le_of_ble_eq_true rfl) rfl lk12_90_10 (fun _ => ⟨_, rfl, rfl⟩) dX12_image_26 ?_
          refine r_sipush S dX12_image_29 (by decide) (fun v1544 z1545 => ?_)
          have r1546 := R_eq z1545
          refine r_iload_n S dX12_image_32 rfl (lv_at hl 1 rfl) ?_
          refine r_imul S dX12_image_33 (fun v1547 z1548 => ?_)
          obtain ⟨e1549, r1550⟩ := i_mul (lo := 0) (hi := 513) z1548 r1546 r26 rfl rfl
          have e1551 : v1547.toInt = 513 * a0.toInt := by rw [e1549, show v1544.toInt = 513 by omega]
          refine r_iload_n S dX12_image_34 rfl (lv_at hl 2 rfl) ?_
          refine r_iadd S dX12_image_35 (fun v1552 z1553 => ?_)
          obtain ⟨e1554, r1555⟩ := i_add (lo := 0) (hi := 1025) z1553 r1550 r1543 rfl
          refine r_aload_n S dX12_image_36 rfl (lv_at hl 0 rfl) ?_
          refine r_get (K := 38) (v := .ref (G.2.2.2.1 133)) S X1158 (Nat.le_of_ble_eq_true rfl) rfl lk12_33_10 (fun _ => ⟨_, rfl, rfl⟩) dX12_image_37 ?_
          refine r_iload_n S dX12_image_40 rfl (lv_at hl 2 rfl) ?_
          refine r_aldn (n := 513) (K := 40) S X1158 (Nat.le_of_ble_eq_true rfl) rfl (fun _ => rfl) (ix_of r1543 rfl) dX12_image_41 (fun v1556 z1557 => ?_)
          have r1559 := R_any v1556
          have g1560 : Rg 40 i1153.toNatClampNeg v1556 := rd I1156 rfl z1557
          refine r_ast (n := 1026) (K := 57) S X1158 (Nat.le_of_ble_eq_true rfl) rfl (fun _ _ => rfl) (ix_of r1555 rfl) dX12_image_42 (fun t1561 H lc M1562 X1563 => ?_)
          have I1564 := Inv_mu I1156 M1562 (show Rg (kd 150) _ v1556 from seg_to (K := 57) (K2 := 40) (c := 0) (m := 513) (U := 2) (n := 513) (u := a0) (k := i1153) g1560 (R_of r26 rfl) (R_of r1543 rfl) (by omega) (by omega) (by decide +kernel))
          have F1565 : Fr [(131, 0)] [150, 152, 351] τ t1561 := Fr_cell F1157 M1562 (by decide)
          refine r_iinc (k := 2) S dX12_image_43 hl rfl (by decide) (by decide) (fun v1566 d1567 ls z1568 z1569 hl => ?_)
          obtain ⟨e1570, r1571⟩ := i_add (lo := 1) (hi := 513) z1568 r1543 (R_eq z1569) rfl
          have hl : lv_has ls 3 [(2, .int v1566), (0, .ref (G.2.2.2.1 131)), (1, .int a0)] := hl
          refine r_goto (tgt := 18) S dX12_image_46 (by decide) ?_
          exact ih1161 t1561 _ _ _ v1566 X1563 I1564 F1565 (R_of r1571 rfl) ((M1562.2 131 0 (Or.inl (by decide))).trans z1159) (lv_sub hl [1, 2, 0] rfl) (by omega)
    exact L1160 _ t4 _ _ _ v27 X16 I7 F8 (R_of r29 rfl) M5.1 (lv_sub hl [1, 2, 0] rfl) (Nat.lt_succ_self _)
  ·
    have r1572 : R (0) (0) v18 := ⟨by omega, by omega⟩
    refine r_iconst S dX12_image_14 (by decide) (fun v1573 z1574 => ?_)
    have r1575 := R_eq z1574
    exact r_ret S hr hlk X16 ⟨I7, F8, (R_of r1575 rfl)⟩ (nr_bool (R_of (lo := 0) (hi := 1) r1575 rfl)) dX12_image_15
def po_X12_restore (τ : Tau)  (a0 : Int32)   (r : Int32) (u : Tau) : Prop := Inv u ∧ Fr [(131, 0), (131, 24)] [133, 336] τ u ∧ R (0) (1) r
set_option maxHeartbeats 4000000 in
set_option maxRecDepth 100000 in
theorem c_X12_restore (l : Launch) (G : Gx) (τ : Tau) (hI : Inv τ) (a0 : Int32) (h_a0 : R (-2147483648) (2147483647) a0) : Ci l G yX12_restore cX12_restore 3 (some .boolean) 1 22 [.ref (G.2.2.2.1 131), .int a0] τ (po_X12_restore τ  a0  ) := by
  unfold Ci
  refine C_of (own := RX12) (by decide) rfl (Nat.le_of_ble_eq_true rfl) ?_
  intro p e s m below meth c ls S hr hlk X hl
  have hl : lv_has ls 3 [(0, .ref (G.2.2.2.1 131)), (1, .int a0)] := hl
  refine r_aload_n S dX12_restore_0 rfl (lv_at hl 0 rfl) ?_
  refine r_iconst S dX12_restore_1 (by decide) (fun v1 z2 => ?_)
  have r3 := R_eq z2
  refine r_put (K := 38) (ty := .int) S X (Nat.le_of_ble_eq_true rfl) rfl lk12_1_10 (fun _ => ⟨_, rfl, Nat.le_of_ble_eq_true rfl, rfl⟩) (fun _ _ _ h => by cases h; exact ⟨rfl, rfl⟩) rfl rfl dX12_restore_2 (fun t4 H lc M5 X6 => ?_)
  have I7 := Inv_mu hI M5 (R_any v1)
  have F8 : Fr [(131, 0), (131, 24)] [133, 336] τ t4 := Fr_mu Fr_rfl M5 (by decide)
  refine r_iload_n S dX12_restore_5 rfl (lv_at hl 1 rfl) ?_
  refine r_iconst S dX12_restore_6 (by decide) (fun v9 z10 => ?_)
  have r11 := R_eq z10
  refine r_iconst S dX12_restore_7 (by decide) (fun v12 z13 => ?_)
  have r14 := R_eq z13
  refine r_ki (q_S (As := [.int a0, .int v9, .int v12]) (rest := []) S X6 (c_X12_isIn l G t4 I7 a0 v9 v12 h_a0 (R_of (lo := -2147483648) (hi := 2147483647) r11 rfl) (R_of (lo := -2147483648) (hi := 2147483647) r14 rfl)) ck12_189 ⟨Nat.le_of_ble_eq_true rfl, Nat.le_of_ble_eq_true rfl⟩ rfl hl.1 rfl (Nat.le_of_ble_eq_true rfl) dX12_restore_8 ⟨Nat.le_refl 0, Nat.le_refl 0⟩) X6 (fun v18 t17 H lc q15 X16 => ?_)
  unfold po_X12_isIn at q15
  obtain ⟨q19, q20, q21⟩ := q15
  rw [q19] at X16
  refine r_if_eq (tgt := 23) S dX12_restore_11 (by decide) (fun c22 => ?_) (fun c22 => ?_)
  ·
    have r23 : R (0) (0) v18 := ⟨by omega, by omega⟩
    refine r_iconst S dX12_restore_23 (by decide) (fun v24 z25 => ?_)
    have r26 := R_eq z25
    exact r_ret S hr hlk X16 ⟨I7, F8, (R_of r26 rfl)⟩ (nr_bool (R_of (lo := 0) (hi := 1) r26 rfl)) dX12_restore_24
  ·
    have r27 : R (1) (1) v18 := ⟨by omega, by omega⟩
    obtain ⟨p28, p29⟩ := q21 (by omega)
    have r30 : R (0) (1) a0 := ⟨by omega, by omega⟩
    refine r_aload_n S dX12_restore_14 rfl (lv_at hl 0 rfl) ?_
    refine r_get (K := 38) (v := .ref (G.2.2.2.1 152)) S X16 (Nat.le_of_ble_eq_true rfl) rfl lk12_96_10 (fun _ => ⟨_, rfl, rfl⟩) dX12_restore_15 ?_
    refine r_iload_n S dX12_restore_18 rfl (lv_at hl 1 rfl) ?_
    refine r_zald (n := 2) (K := 59) S X16 (Nat.le_of_ble_eq_true rfl) rfl (fun _ => rfl) (ix_of r30 rfl) dX12_restore_19 (fun v31 z32 => ?_)
    have r33 : R (0) (1) v31 := rd I7 rfl z32
    refine r_if_ne (tgt := 25) S dX12_restore_20 (by decide) (fun c34 => ?_) (fun c34 => ?_)
    ·
      have r35 : R (1) (1) v31 := ⟨by omega, by omega⟩
      refine r_iconst S dX12_restore_25 (by decide) (fun v36 z37 => ?_)
      have r38 := R_eq z37
      refine r_istore_n (lv' := [(2, .int v36), (0, .ref (G.2.2.2.1 131)), (1, .int a0)]) S dX12_restore_26 rfl hl (by decide) rfl (fun ls hl => ?_)
      have L1175 : ∀ (n : Nat) (t1170 : Tau) (H : Heap) (lc : List Loc) (ls : Array Slot) (i1168 : Int32), Xd G s H lc t1170 → Inv t1170 → Fr [(131, 0), (131, 24)] [133, 336] τ t1170 → R (0) (513) i1168 → t1170 131 0 = v1 → lv_has ls 3 [(0, .ref (G.2.2.2.1 131)), (1, .int a0), (2, .int i1168)] → (513 - i1168.toInt).toNat < n → W p l e (Rm 1 22) s m ([.ref (G.2.2.2.1 131), .int a0] : List Value).toArray below meth c H lc 0 0 (MQ below (va_Qi (po_X12_restore τ  a0  ) (Bs G) G.2.2.2.2) ([.ref (G.2.2.2.1 131), .int a0] : List Value).toArray s 0 0 G.2.2.2.2) (F0 m 27 ls []) := by
        intro n
        induction n with
        | zero => intros; omega
        | succ n ih1176 =>
          intro t1170 H lc ls i1168 X1173 I1171 F1172 r1169 z1174 hl hm
          refine r_iload_n S dX12_restore_27 rfl (lv_at hl 2 rfl) ?_
          refine r_sipush S dX12_restore_28 (by decide) (fun v1177 z1178 => ?_)
          have r1179 := R_eq z1178
          refine r_icmp_ge (tgt := 58) S dX12_restore_31 (by decide) (fun c1180 => ?_) (fun c1180 => ?_)
          ·
            have r1181 : R (513) (513) i1168 := ⟨by omega, by omega⟩
            refine r_iconst S dX12_restore_58 (by decide) (fun v1182 z1183 => ?_)
            have r1184 := R_eq z1183
            refine r_istore_n (lv' := [(2, .int v1182), (0, .ref (G.2.2.2.1 131)), (1, .int a0)]) S dX12_restore_59 rfl hl (by decide) rfl (fun ls hl => ?_)
            have L1514 : ∀ (n : Nat) (t1509 : Tau) (H : Heap) (lc : List Loc) (ls : Array Slot) (i1507 : Int32), Xd G s H lc t1509 → Inv t1509 → Fr [(131, 0), (131, 24)] [133, 336] τ t1509 → R (0) (19) i1507 → t1509 131 0 = v1 → lv_has ls 3 [(0, .ref (G.2.2.2.1 131)), (1, .int a0), (2, .int i1507)] → (19 - i1507.toInt).toNat < n → W p l e (Rm 1 22) s m ([.ref (G.2.2.2.1 131), .int a0] : List Value).toArray below meth c H lc 0 0 (MQ below (va_Qi (po_X12_restore τ  a0  ) (Bs G) G.2.2.2.2) ([.ref (G.2.2.2.1 131), .int a0] : List Value).toArray s 0 0 G.2.2.2.2) (F0 m 60 ls []) := by
              intro n
              induction n with
              | zero => intros; omega
              | succ n ih1515 =>
                intro t1509 H lc ls i1507 X1512 I1510 F1511 r1508 z1513 hl hm
                refine r_iload_n S dX12_restore_60 rfl (lv_at hl 2 rfl) ?_
                refine r_bipush S dX12_restore_61 (by decide) (fun v1516 z1517 => ?_)
                have r1518 := R_eq z1517
                refine r_icmp_ge (tgt := 89) S dX12_restore_63 (by decide) (fun c1519 => ?_) (fun c1519 => ?_)
                ·
                  have r1520 : R (19) (19) i1507 := ⟨by omega, by omega⟩
                  refine r_aload_n S dX12_restore_89 rfl (lv_at hl 0 rfl) ?_
                  refine r_iconst S dX12_restore_90 (by decide) (fun v1521 z1522 => ?_)
                  have r1523 := R_eq z1522
                  refine r_put (K := 38) (ty := .int) S X1512 (Nat.le_of_ble_eq_true rfl) rfl lk12_249_10 (fun _ => ⟨_, rfl, Nat.le_of_ble_eq_true rfl, rfl⟩) (fun _ _ _ h => by cases h; exact ⟨rfl, rfl⟩) rfl rfl dX12_restore_91 (fun t1524 H lc M1525 X1526 => ?_)
                  have I1527 := Inv_mu I1510 M1525 (show Rg (kd 131) 24 v1521 from (R_of (lo := 0) (hi := 8) r1523 rfl))
                  have F1528 : Fr [(131, 0), (131, 24)] [133, 336] τ t1524 := Fr_mu F1511 M1525 (by decide)
                  refine r_iconst S dX12_restore_94 (by decide) (fun v1529 z1530 => ?_)
                  have r1531 := R_eq z1530
                  exact r_ret S hr hlk X1526 ⟨I1527, F1528, (R_of r1531 rfl)⟩ (nr_bool (R_of (lo := 0) (hi := 1) r1531 rfl)) dX12_restore_95
                ·
                  have r1532 : R (0) (18) i1507 := ⟨by omega, by omega⟩
                  refine r_aload_n S dX12_restore_66 rfl (lv_at hl 0 rfl) ?_
                  refine r_get (K := 38) (v := .ref (G.2.2.2.1 136)) S X1512 (Nat.le_of_ble_eq_true rfl) rfl lk12_43_10 (fun _ => ⟨_, rfl, rfl⟩) dX12_restore_67 ?_
                  refine r_iload_n S dX12_restore_70 rfl (lv_at hl 2 rfl) ?_
                  refine r_aload_n S dX12_restore_71 rfl (lv_at hl 0 rfl) ?_
                  refine r_get (K := 38) (v := .ref (G.2.2.2.1 151)) S X1512 (Nat.le_of_ble_eq_true rfl) rfl lk12_93_10 (fun _ => ⟨_, rfl, rfl⟩) dX12_restore_72 ?_
                  refine r_bipush S dX12_restore_75 (by decide) (fun v1533 z1534 => ?_)
                  have r1535 := R_eq z1534
                  refine r_iload_n S dX12_restore_77 rfl (lv_at hl 1 rfl) ?_
                  refine r_imul S dX12_restore_78 (fun v1536 z1537 => ?_)
                  obtain ⟨e1538, r1539⟩ := i_mul (lo := 0) (hi := 19) z1537 r1535 r30 rfl rfl
                  have e1540 : v1536.toInt = 19 * a0.toInt := by rw [e1538, show v1533.toInt = 19 by omega]
                  refine r_iload_n S dX12_restore_79 rfl (lv_at hl 2 rfl) ?_
                  refine r_iadd S dX12_restore_80 (fun v1541 z1542 => ?_)
                  obtain ⟨e1543, r1544⟩ := i_add (lo := 0) (hi := 37) z1542 r1539 r1532 rfl
                  refine r_lald (n := 38) (K := 58) S X1512 (Nat.le_of_ble_eq_true rfl) rfl (fun _ => rfl) (ix_of r1544 rfl) dX12_restore_81 (fun j1545 z1546 => ?_)
                  refine r_last (n := 38) (K := 43) S X1512 (Nat.le_of_ble_eq_true rfl) rfl (fun _ => rfl) (ix_of r1532 rfl) dX12_restore_82 (fun t1548 H lc M1549 X1547 => ?_)
                  have I1550 := Inv_ml I1510 M1549
                  have F1551 : Fr [(131, 0), (131, 24)] [133, 336] τ t1548 := Fr_ml F1511 M1549 (by decide)
                  refine r_iinc (k := 2) S dX12_restore_83 hl rfl (by decide) (by decide) (fun v1552 d1553 ls z1554 z1555 hl => ?_)
                  obtain ⟨e1556, r1557⟩ := i_add (lo := 1) (hi := 19) z1554 r1532 (R_eq z1555) rfl
                  have hl : lv_has ls 3 [(2, .int v1552), (0, .ref (G.2.2.2.1 131)), (1, .int a0)] := hl
                  refine r_goto (tgt := 60) S dX12_restore_86 (by decide) ?_
                  exact ih1515 t1548 _ _ _ v1552 X1547 I1550 F1551 (R_of r1557 rfl) ((M1549.1 131 (by decide) 0).trans z1513) (lv_sub hl [1, 2, 0] rfl) (by omega)
            exact L1514 _ t1170 _ _ _ v1182 X1173 I1171 F1172 (R_of r1184 rfl) z1174 (lv_sub hl [1, 2, 0] rfl) (Nat.lt_succ_self _)
          ·
            have r1558 : R (0) (512) i1168 := ⟨by omega, by omega⟩
            refine r_aload_n S dX12_restore_34 rfl (lv_at hl 0 rfl) ?_
            refine r_get (K := 38) (v := .ref (G.2.2.2.1 133)) S X1173 (Nat.le_of_ble_eq_true rfl) rfl lk12_33_10 (fun _ => ⟨_, rfl, rfl⟩) dX12_restore_35 ?_
            refine r_iload_n S dX12_restore_38 rfl (lv_at hl 2 rfl) ?_
            refine r_aload_n S dX12_restore_39 rfl (lv_at hl 0 rfl) ?_
            refine r_get (K := 38) (v := .ref (G.2.2.2.1 150)) S X1173 (Nat.le_of_ble_eq_true rfl) rfl lk12_90_10 (fun _ => ⟨_, rfl, rfl⟩) dX12_restore_40 ?_
            refine r_sipush S dX12_restore_43 (by decide) (fun v1559 z1560 => ?_)
            have r1561 := R_eq z1560
            refine r_iload_n S dX12_restore_46 rfl (lv_at hl 1 rfl) ?_
            refine r_imul S dX12_restore_47 (fun v1562 z1563 => ?_)
            obtain ⟨e1564, r1565⟩ := i_mul (lo := 0) (hi := 513) z1563 r1561 r30 rfl rfl
            have e1566 : v1562.toInt = 513 * a0.toInt := by rw [e1564, show v1559.toInt = 513 by omega]
            refine r_iload_n S dX12_restore_48 rfl (lv_at hl 2 rfl) ?_
            refine r_iadd S dX12_restore_49 (fun v1567 z1568 => ?_)
            obtain ⟨e1569, r1570⟩ := i_add (lo := 0) (hi := 1025) z1568 r1565 r1558 rfl
            refine r_aldn (n := 1026) (K := 57) S X1173 (Nat.le_of_ble_eq_true rfl) rfl (fun _ => rfl) (ix_of r1570 rfl) dX12_restore_50 (fun v1571 z1572 => ?_)
            have r1574 := R_any v1571
            have g1575 : Rg 57 v1567.toNatClampNeg v1571 := rd I1171 rfl z1572
            refine r_ast (n := 513) (K := 40) S X1173 (Nat.le_of_ble_eq_true rfl) rfl (fun _ _ => rfl) (ix_of r1558 rfl) dX12_restore_51 (fun t1576 H lc M1577 X1578 => ?_)
            have I1579 := Inv_mu I1171 M1577 (show Rg (kd 133) _ v1571 from seg_fr (K := 40) (K2 := 57) (c := 0) (m := 513) (U := 2) (n := 513) (u := a0) (k := i1168) g1575 (R_of r30 rfl) (R_of r1558 rfl) (by omega) (by omega) (by decide +kernel))
            have F1580 : Fr [(131, 0), (131, 24)] [133, 336] τ t1576 := Fr_cell F1172 M1577 (by decide)
            refine r_iinc (k := 2) S dX12_restore_52 hl rfl (by decide) (by decide) (fun v1581 d1582 ls z1583 z1584 hl => ?_)
            obtain ⟨e1585, r1586⟩ := i_add (lo := 1) (hi := 513) z1583 r1558 (R_eq z1584) rfl
            have hl : lv_has ls 3 [(2, .int v1581), (0, .ref (G.2.2.2.1 131)), (1, .int a0)] := hl
            refine r_goto (tgt := 27) S dX12_restore_55 (by decide) ?_
            exact ih1176 t1576 _ _ _ v1581 X1578 I1579 F1580 (R_of r1586 rfl) ((M1577.2 131 0 (Or.inl (by decide))).trans z1174) (lv_sub hl [1, 2, 0] rfl) (by omega)
      exact L1175 _ t4 _ _ _ v36 X16 I7 F8 (R_of r38 rfl) M5.1 (lv_sub hl [1, 2, 0] rfl) (Nat.lt_succ_self _)
    ·
      have r1587 : R (0) (0) v31 := ⟨by omega, by omega⟩
      refine r_iconst S dX12_restore_23 (by decide) (fun v1588 z1589 => ?_)
      have r1590 := R_eq z1589
      exact r_ret S hr hlk X16 ⟨I7, F8, (R_of r1590 rfl)⟩ (nr_bool (R_of (lo := 0) (hi := 1) r1590 rfl)) dX12_restore_24
def po_X12_cross (τ : Tau)  (a0 : Int32)   (r : Int32) (u : Tau) : Prop := Inv u ∧ Fr [(131, 0), (131, 24)] [138, 133] τ u
set_option maxHeartbeats 4000000 in
set_option maxRecDepth 100000 in
theorem c_X12_cross (l : Launch) (G : Gx) (τ : Tau) (hI : Inv τ) (a0 : Int32) (h_a0 : R (-2147483648) (2147483647) a0) : Ci l G yX12_cross cX12_cross 3 (some .int) 6 137 [.ref (G.2.2.2.1 131), .int a0] τ (po_X12_cross τ  a0  ) := by
  unfold Ci
  refine C_of (own := RX12) (by decide) rfl (Nat.le_of_ble_eq_true rfl) ?_
  intro p e s m below meth c ls S hr hlk X hl
  have hl : lv_has ls 3 [(0, .ref (G.2.2.2.1 131)), (1, .int a0)] := hl
  refine r_aload_n S dX12_cross_0 rfl (lv_at hl 0 rfl) ?_
  refine r_iconst S dX12_cross_1 (by decide) (fun v1 z2 => ?_)
  have r3 := R_eq z2
  refine r_put (K := 38) (ty := .int) S X (Nat.le_of_ble_eq_true rfl) rfl lk12_1_10 (fun _ => ⟨_, rfl, Nat.le_of_ble_eq_true rfl, rfl⟩) (fun _ _ _ h => by cases h; exact ⟨rfl, rfl⟩) rfl rfl dX12_cross_2 (fun t4 H lc M5 X6 => ?_)
  have I7 := Inv_mu hI M5 (R_any v1)
  have F8 : Fr [(131, 0), (131, 24)] [138, 133] τ t4 := Fr_mu Fr_rfl M5 (by decide)
  refine r_aload_n S dX12_cross_5 rfl (lv_at hl 0 rfl) ?_
  refine r_iload_n S dX12_cross_6 rfl (lv_at hl 1 rfl) ?_
  refine r_ki (q_V (As := [.int a0]) (rest := []) (K := 38) (ci := 10) S X6 (c_X12_isSet l G t4 I7 a0 h_a0) ck12_296 (Nat.le_of_ble_eq_true rfl) rfl (fun _ => ⟨_, rfl⟩) ⟨_, _, rfl⟩ ⟨Nat.le_of_ble_eq_true rfl, Nat.le_of_ble_eq_true rfl⟩ rfl hl.1 rfl (Nat.le_of_ble_eq_true rfl) dX12_cross_7 ⟨Nat.le_refl 0, Nat.le_refl 0⟩) X6 (fun v12 t11 H lc q9 X10 => ?_)
  unfold po_X12_isSet at q9
  obtain ⟨q13, q14, q15⟩ := q9
  rw [q13] at X10
  refine r_if_ne (tgt := 15) S dX12_cross_10 (by decide) (fun c16 => ?_) (fun c16 => ?_)
  ·
    have r17 : R (1) (1) v12 := ⟨by omega, by omega⟩
    have p18 := q15 (by omega)
    have r19 : R (0) (1023) a0 := ⟨by omega, by omega⟩
    refine r_aload_n S dX12_cross_15 rfl (lv_at hl 0 rfl) ?_
    refine r_iload_n S dX12_cross_16 rfl (lv_at hl 1 rfl) ?_
    refine r_ki (q_V (As := [.int a0]) (rest := []) (K := 38) (ci := 10) S X10 (c_X12_whyCross l G t4 I7 a0 (R_of (lo := -2147483648) (hi := 2147483647) r19 rfl)) ck12_299 (Nat.le_of_ble_eq_true rfl) rfl (fun _ => ⟨_, rfl⟩) ⟨_, _, rfl⟩ ⟨Nat.le_of_ble_eq_true rfl, Nat.le_of_ble_eq_true rfl⟩ rfl hl.1 rfl (Nat.le_of_ble_eq_true rfl) dX12_cross_17 ⟨Nat.le_refl 0, Nat.le_refl 0⟩) X10 (fun v23 t22 H lc q20 X21 => ?_)
    unfold po_X12_whyCross at q20
    obtain ⟨q24, q25⟩ := q20
    rw [q24] at X21
    refine r_istore_n (lv' := [(2, .int v23), (0, .ref (G.2.2.2.1 131)), (1, .int a0)]) S dX12_cross_20 rfl hl (by decide) rfl (fun ls hl => ?_)
    refine r_iload_n S dX12_cross_21 rfl (lv_at hl 0 rfl) ?_
    refine r_if_le (tgt := 27) S dX12_cross_22 (by decide) (fun c26 => ?_) (fun c26 => ?_)
    ·
      have r27 : R (0) (0) v23 := ⟨by omega, by omega⟩
      refine r_aload_n S dX12_cross_27 rfl (lv_at hl 1 rfl) ?_
      refine r_kv (q_V (As := []) (rest := []) (K := 38) (ci := 10) S X21 (c_X12_keep l G t4 I7 ) ck12_302 (Nat.le_of_ble_eq_true rfl) rfl (fun _ => ⟨_, rfl⟩) ⟨_, _, rfl⟩ ⟨Nat.le_of_ble_eq_true rfl, Nat.le_of_ble_eq_true rfl⟩ rfl hl.1 rfl (Nat.le_of_ble_eq_true rfl) dX12_cross_28 ⟨Nat.le_refl 0, Nat.le_refl 0⟩) X21 (fun t30 H lc q28 X29 => ?_)
      unfold po_X12_keep at q28
      obtain ⟨q31, q32⟩ := q28
      have F33 : Fr [(131, 0), (131, 24)] [138, 133] τ t30 := Fr_call F8 q32 (by decide)
      refine r_aload_n S dX12_cross_31 rfl (lv_at hl 1 rfl) ?_
      refine r_iload_n S dX12_cross_32 rfl (lv_at hl 2 rfl) ?_
      refine r_kv (q_V (As := [.int a0]) (rest := []) (K := 38) (ci := 10) S X29 (c_X12_crosses l G t30 q31 a0 r19) ck12_305 (Nat.le_of_ble_eq_true rfl) rfl (fun _ => ⟨_, rfl⟩) ⟨_, _, rfl⟩ ⟨Nat.le_of_ble_eq_true rfl, Nat.le_of_ble_eq_true rfl⟩ rfl hl.1 rfl (Nat.le_of_ble_eq_true rfl) dX12_cross_33 ⟨Nat.le_refl 0, Nat.le_refl 0⟩) X29 (fun t36 H lc q34 X35 => ?_)
      unfold po_X12_crosses at q34
      obtain ⟨q37, q38⟩ := q34
      have F39 : Fr [(131, 0), (131, 24)] [138, 133] τ t36 := Fr_call F33 q38 (by decide)
      refine r_iconst S dX12_cross_36 (by decide) (fun v40 z41 => ?_)
      have r42 := R_eq z41
      exact r_ret S hr hlk X35 ⟨q37, F39⟩ rfl dX12_cross_37
    ·
      have r43 : R (1) (4) v23 := ⟨by omega, by omega⟩
      refine r_iload_n S dX12_cross_25 rfl (lv_at hl 0 rfl) ?_
      exact r_ret S hr hlk X21 ⟨I7, F8⟩ rfl dX12_cross_26
  ·
    have r44 : R (0) (0) v12 := ⟨by omega, by omega⟩
    refine r_iconst S dX12_cross_13 (by decide) (fun v45 z46 => ?_)
    have r47 := R_eq z46
    exact r_ret S hr hlk X10 ⟨I7, F8⟩ rfl dX12_cross_14
def po_X12_raise (τ : Tau)  (a0 : Int32)   (r : Int32) (u : Tau) : Prop := Inv u ∧ Fr [(131, 0), (131, 24)] [138, 133] τ u
set_option maxHeartbeats 4000000 in
set_option maxRecDepth 100000 in
theorem c_X12_raise (l : Launch) (G : Gx) (τ : Tau) (hI : Inv τ) (a0 : Int32) (h_a0 : R (-2147483648) (2147483647) a0) : Ci l G yX12_raise cX12_raise 2 (some .int) 2 43 [.ref (G.2.2.2.1 131), .int a0] τ (po_X12_raise τ  a0  ) := by
  unfold Ci
  refine C_of (own := RX12) (by decide) rfl (Nat.le_of_ble_eq_true rfl) ?_
  intro p e s m below meth c ls S hr hlk X hl
  have hl : lv_has ls 2 [(0, .ref (G.2.2.2.1 131)), (1, .int a0)] := hl
  refine r_aload_n S dX12_raise_0 rfl (lv_at hl 0 rfl) ?_
  refine r_iconst S dX12_raise_1 (by decide) (fun v1 z2 => ?_)
  have r3 := R_eq z2
  refine r_put (K := 38) (ty := .int) S X (Nat.le_of_ble_eq_true rfl) rfl lk12_1_10 (fun _ => ⟨_, rfl, Nat.le_of_ble_eq_true rfl, rfl⟩) (fun _ _ _ h => by cases h; exact ⟨rfl, rfl⟩) rfl rfl dX12_raise_2 (fun t4 H lc M5 X6 => ?_)
  have I7 := Inv_mu hI M5 (R_any v1)
  have F8 : Fr [(131, 0), (131, 24)] [138, 133] τ t4 := Fr_mu Fr_rfl M5 (by decide)
  refine r_aload_n S dX12_raise_5 rfl (lv_at hl 0 rfl) ?_
  refine r_iload_n S dX12_raise_6 rfl (lv_at hl 1 rfl) ?_
  refine r_ki (q_V (As := [.int a0]) (rest := []) (K := 38) (ci := 10) S X6 (c_X12_isAsk l G t4 I7 a0 h_a0) ck12_266 (Nat.le_of_ble_eq_true rfl) rfl (fun _ => ⟨_, rfl⟩) ⟨_, _, rfl⟩ ⟨Nat.le_of_ble_eq_true rfl, Nat.le_of_ble_eq_true rfl⟩ rfl hl.1 rfl (Nat.le_of_ble_eq_true rfl) dX12_raise_7 ⟨Nat.le_refl 0, Nat.le_refl 0⟩) X6 (fun v12 t11 H lc q9 X10 => ?_)
  unfold po_X12_isAsk at q9
  obtain ⟨q13, q14, q15⟩ := q9
  rw [q13] at X10
  refine r_if_ne (tgt := 15) S dX12_raise_10 (by decide) (fun c16 => ?_) (fun c16 => ?_)
  ·
    have r17 : R (1) (1) v12 := ⟨by omega, by omega⟩
    have p18 := q15 (by omega)
    have r19 : R (0) (8) a0 := ⟨by omega, by omega⟩
    refine r_aload_n S dX12_raise_15 rfl (lv_at hl 0 rfl) ?_
    refine r_iload_n S dX12_raise_16 rfl (lv_at hl 1 rfl) ?_
    refine r_ki (q_V (As := [.int a0]) (rest := []) (K := 38) (ci := 10) S X10 (c_X12_whyRaise l G t4 I7 a0 (R_of (lo := -2147483648) (hi := 2147483647) r19 rfl)) ck12_308 (Nat.le_of_ble_eq_true rfl) rfl (fun _ => ⟨_, rfl⟩) ⟨_, _, rfl⟩ ⟨Nat.le_of_ble_eq_true rfl, Nat.le_of_ble_eq_true rfl⟩ rfl hl.1 rfl (Nat.le_of_ble_eq_true rfl) dX12_raise_17 ⟨Nat.le_refl 0, Nat.le_refl 0⟩) X10 (fun v23 t22 H lc q20 X21 => ?_)
    unfold po_X12_whyRaise at q20
    obtain ⟨q24, q25⟩ := q20
    rw [q24] at X21
    refine r_if_le (tgt := 25) S dX12_raise_20 (by decide) (fun c26 => ?_) (fun c26 => ?_)
    ·
      have r27 : R (0) (0) v23 := ⟨by omega, by omega⟩
      refine r_aload_n S dX12_raise_25 rfl (lv_at hl 0 rfl) ?_
      refine r_kv (q_V (As := []) (rest := []) (K := 38) (ci := 10) S X21 (c_X12_keep l G t4 I7 ) ck12_302 (Nat.le_of_ble_eq_true rfl) rfl (fun _ => ⟨_, rfl⟩) ⟨_, _, rfl⟩ ⟨Nat.le_of_ble_eq_true rfl, Nat.le_of_ble_eq_true rfl⟩ rfl hl.1 rfl (Nat.le_of_ble_eq_true rfl) dX12_raise_26 ⟨Nat.le_refl 0, Nat.le_refl 0⟩) X21 (fun t30 H lc q28 X29 => ?_)
      unfold po_X12_keep at q28
      obtain ⟨q31, q32⟩ := q28
      have F33 : Fr [(131, 0), (131, 24)] [138, 133] τ t30 := Fr_call F8 q32 (by decide)
      refine r_aload_n S dX12_raise_29 rfl (lv_at hl 0 rfl) ?_
      refine r_get (K := 38) (v := .ref (G.2.2.2.1 133)) S X29 (Nat.le_of_ble_eq_true rfl) rfl lk12_33_10 (fun _ => ⟨_, rfl, rfl⟩) dX12_raise_30 ?_
      refine r_bipush S dX12_raise_33 (by decide) (fun v34 z35 => ?_)
      have r36 := R_eq z35
      refine r_iload_n S dX12_raise_35 rfl (lv_at hl 1 rfl) ?_
      refine r_ast (n := 513) (K := 40) S X29 (Nat.le_of_ble_eq_true rfl) rfl (fun _ _ => rfl) (ix_of r36 rfl) dX12_raise_36 (fun t37 H lc M38 X39 => ?_)
      have I40 := Inv_mu q31 M38 (show Rg (kd 133) _ a0 from wrs (K := 40) (a := 126) (n := 1) (R_of r36 rfl) (R_of (lo := 0) (hi := 8) r19 rfl) (by decide +kernel))
      have F41 : Fr [(131, 0), (131, 24)] [138, 133] τ t37 := Fr_cell F33 M38 (by decide)
      refine r_iconst S dX12_raise_37 (by decide) (fun v42 z43 => ?_)
      have r44 := R_eq z43
      exact r_ret S hr hlk X39 ⟨I40, F41⟩ rfl dX12_raise_38
    ·
      have r45 : R (1) (1) v23 := ⟨by omega, by omega⟩
      refine r_iconst S dX12_raise_23 (by decide) (fun v46 z47 => ?_)
      have r48 := R_eq z47
      exact r_ret S hr hlk X21 ⟨I7, F8⟩ rfl dX12_raise_24
  ·
    have r49 : R (0) (0) v12 := ⟨by omega, by omega⟩
    refine r_iconst S dX12_raise_13 (by decide) (fun v50 z51 => ?_)
    have r52 := R_eq z51
    exact r_ret S hr hlk X10 ⟨I7, F8⟩ rfl dX12_raise_14
def po_X12_hire (τ : Tau)  (a0 : Int32)   (r : Int32) (u : Tau) : Prop := Inv u ∧ Fr [(131, 0), (131, 24)] [138, 133] τ u
set_option maxHeartbeats 4000000 in
set_option maxRecDepth 100000 in
theorem c_X12_hire (l : Launch) (G : Gx) (τ : Tau) (hI : Inv τ) (a0 : Int32) (h_a0 : R (-2147483648) (2147483647) a0) : Ci l G yX12_hire cX12_hire 2 (some .int) 2 43 [.ref (G.2.2.2.1 131), .int a0] τ (po_X12_hire τ  a0  ) := by
  unfold Ci
  refine C_of (own := RX12) (by decide) rfl (Nat.le_of_ble_eq_true rfl) ?_
  intro p e s m below meth c ls S hr hlk X hl
  have hl : lv_has ls 2 [(0, .ref (G.2.2.2.1 131)), (1, .int a0)] := hl
  refine r_aload_n S dX12_hire_0 rfl (lv_at hl 0 rfl) ?_
  refine r_iconst S dX12_hire_1 (by decide) (fun v1 z2 => ?_)
  have r3 := R_eq z2
  refine r_put (K := 38) (ty := .int) S X (Nat.le_of_ble_eq_true rfl) rfl lk12_1_10 (fun _ => ⟨_, rfl, Nat.le_of_ble_eq_true rfl, rfl⟩) (fun _ _ _ h => by cases h; exact ⟨rfl, rfl⟩) rfl rfl dX12_hire_2 (fun t4 H lc M5 X6 => ?_)
  have I7 := Inv_mu hI M5 (R_any v1)
  have F8 : Fr [(131, 0), (131, 24)] [138, 133] τ t4 := Fr_mu Fr_rfl M5 (by decide)
  refine r_aload_n S dX12_hire_5 rfl (lv_at hl 0 rfl) ?_
  refine r_iload_n S dX12_hire_6 rfl (lv_at hl 1 rfl) ?_
  refine r_ki (q_V (As := [.int a0]) (rest := []) (K := 38) (ci := 10) S X6 (c_X12_isMan l G t4 I7 a0 h_a0) ck12_252 (Nat.le_of_ble_eq_true rfl) rfl (fun _ => ⟨_, rfl⟩) ⟨_, _, rfl⟩ ⟨Nat.le_of_ble_eq_true rfl, Nat.le_of_ble_eq_true rfl⟩ rfl hl.1 rfl (Nat.le_of_ble_eq_true rfl) dX12_hire_7 ⟨Nat.le_refl 0, Nat.le_refl 0⟩) X6 (fun v12 t11 H lc q9 X10 => ?_)
  unfold po_X12_isMan at q9
  obtain ⟨q13, q14, q15⟩ := q9
  rw [q13] at X10
  rw [q13] at q15
  refine r_if_ne (tgt := 15) S dX12_hire_10 (by decide) (fun c16 => ?_) (fun c16 => ?_)
  ·
    have r17 : R (1) (1) v12 := ⟨by omega, by omega⟩
    obtain ⟨p18, p19⟩ := q15 (by omega)
    have r20 : R (0) (9) a0 := ⟨by omega, by omega⟩
    obtain ⟨v21, z22⟩ : ∃ x, t4 133 1 = x := ⟨_, rfl⟩
    rw [z22] at p19
    refine r_aload_n S dX12_hire_15 rfl (lv_at hl 0 rfl) ?_
    refine r_iload_n S dX12_hire_16 rfl (lv_at hl 1 rfl) ?_
    refine r_ki (q_V (As := [.int a0]) (rest := []) (K := 38) (ci := 10) S X10 (c_X12_whyHire l G t4 I7 a0 (R_of (lo := -2147483648) (hi := 2147483647) r20 rfl)) ck12_311 (Nat.le_of_ble_eq_true rfl) rfl (fun _ => ⟨_, rfl⟩) ⟨_, _, rfl⟩ ⟨Nat.le_of_ble_eq_true rfl, Nat.le_of_ble_eq_true rfl⟩ rfl hl.1 rfl (Nat.le_of_ble_eq_true rfl) dX12_hire_17 ⟨Nat.le_refl 0, Nat.le_refl 0⟩) X10 (fun v26 t25 H lc q23 X24 => ?_)
    unfold po_X12_whyHire at q23
    obtain ⟨q27, q28⟩ := q23
    rw [q27] at X24
    refine r_if_le (tgt := 25) S dX12_hire_20 (by decide) (fun c29 => ?_) (fun c29 => ?_)
    ·
      have r30 : R (0) (0) v26 := ⟨by omega, by omega⟩
      refine r_aload_n S dX12_hire_25 rfl (lv_at hl 0 rfl) ?_
      refine r_kv (q_V (As := []) (rest := []) (K := 38) (ci := 10) S X24 (c_X12_keep l G t4 I7 ) ck12_302 (Nat.le_of_ble_eq_true rfl) rfl (fun _ => ⟨_, rfl⟩) ⟨_, _, rfl⟩ ⟨Nat.le_of_ble_eq_true rfl, Nat.le_of_ble_eq_true rfl⟩ rfl hl.1 rfl (Nat.le_of_ble_eq_true rfl) dX12_hire_26 ⟨Nat.le_refl 0, Nat.le_refl 0⟩) X24 (fun t33 H lc q31 X32 => ?_)
      unfold po_X12_keep at q31
      obtain ⟨q34, q35⟩ := q31
      have F36 : Fr [(131, 0), (131, 24)] [138, 133] τ t33 := Fr_call F8 q35 (by decide)
      refine r_aload_n S dX12_hire_29 rfl (lv_at hl 0 rfl) ?_
      refine r_iload_n S dX12_hire_30 rfl (lv_at hl 1 rfl) ?_
      refine r_kv (q_V (As := [.int a0]) (rest := []) (K := 38) (ci := 10) S X32 (c_X12_hires l G t33 q34 a0 r20) ck12_314 (Nat.le_of_ble_eq_true rfl) rfl (fun _ => ⟨_, rfl⟩) ⟨_, _, rfl⟩ ⟨Nat.le_of_ble_eq_true rfl, Nat.le_of_ble_eq_true rfl⟩ rfl hl.1 rfl (Nat.le_of_ble_eq_true rfl) dX12_hire_31 ⟨Nat.le_refl 0, Nat.le_refl 0⟩) X32 (fun t39 H lc q37 X38 => ?_)
      unfold po_X12_hires at q37
      obtain ⟨q40, q41⟩ := q37
      have F42 : Fr [(131, 0), (131, 24)] [138, 133] τ t39 := Fr_call F36 q41 (by decide)
      refine r_iconst S dX12_hire_34 (by decide) (fun v43 z44 => ?_)
      have r45 := R_eq z44
      exact r_ret S hr hlk X38 ⟨q40, F42⟩ rfl dX12_hire_35
    ·
      have r46 : R (1) (1) v26 := ⟨by omega, by omega⟩
      refine r_iconst S dX12_hire_23 (by decide) (fun v47 z48 => ?_)
      have r49 := R_eq z48
      exact r_ret S hr hlk X24 ⟨I7, F8⟩ rfl dX12_hire_24
  ·
    have r50 : R (0) (0) v12 := ⟨by omega, by omega⟩
    refine r_iconst S dX12_hire_13 (by decide) (fun v51 z52 => ?_)
    have r53 := R_eq z52
    exact r_ret S hr hlk X10 ⟨I7, F8⟩ rfl dX12_hire_14
def po_X12_lie (τ : Tau)  (a0 a1 a2 : Int32)   (r : Int32) (u : Tau) : Prop := Inv u ∧ Fr [(131, 0), (131, 24)] [138, 133] τ u
set_option maxHeartbeats 4000000 in
set_option maxRecDepth 100000 in
theorem c_X12_lie (l : Launch) (G : Gx) (τ : Tau) (hI : Inv τ) (a0 : Int32) (a1 : Int32) (a2 : Int32) (h_a0 : R (-2147483648) (2147483647) a0) (h_a1 : R (-2147483648) (2147483647) a1) (h_a2 : R (-2147483648) (2147483647) a2) : Ci l G yX12_lie cX12_lie 5 (some .int) 4 89 [.ref (G.2.2.2.1 131), .int a0, .int a1, .int a2] τ (po_X12_lie τ  a0 a1 a2  ) := by
  unfold Ci
  refine C_of (own := RX12) (by decide) rfl (Nat.le_of_ble_eq_true rfl) ?_
  intro p e s m below meth c ls S hr hlk X hl
  have hl : lv_has ls 5 [(0, .ref (G.2.2.2.1 131)), (1, .int a0), (2, .int a1), (3, .int a2)] := hl
  refine r_aload_n S dX12_lie_0 rfl (lv_at hl 0 rfl) ?_
  refine r_iconst S dX12_lie_1 (by decide) (fun v1 z2 => ?_)
  have r3 := R_eq z2
  refine r_put (K := 38) (ty := .int) S X (Nat.le_of_ble_eq_true rfl) rfl lk12_1_10 (fun _ => ⟨_, rfl, Nat.le_of_ble_eq_true rfl, rfl⟩) (fun _ _ _ h => by cases h; exact ⟨rfl, rfl⟩) rfl rfl dX12_lie_2 (fun t4 H lc M5 X6 => ?_)
  have I7 := Inv_mu hI M5 (R_any v1)
  have F8 : Fr [(131, 0), (131, 24)] [138, 133] τ t4 := Fr_mu Fr_rfl M5 (by decide)
  refine r_aload_n S dX12_lie_5 rfl (lv_at hl 0 rfl) ?_
  refine r_iload_n S dX12_lie_6 rfl (lv_at hl 1 rfl) ?_
  refine r_ki (q_V (As := [.int a0]) (rest := []) (K := 38) (ci := 10) S X6 (c_X12_isMan l G t4 I7 a0 h_a0) ck12_252 (Nat.le_of_ble_eq_true rfl) rfl (fun _ => ⟨_, rfl⟩) ⟨_, _, rfl⟩ ⟨Nat.le_of_ble_eq_true rfl, Nat.le_of_ble_eq_true rfl⟩ rfl hl.1 rfl (Nat.le_of_ble_eq_true rfl) dX12_lie_7 ⟨Nat.le_refl 0, Nat.le_refl 0⟩) X6 (fun v12 t11 H lc q9 X10 => ?_)
  unfold po_X12_isMan at q9
  obtain ⟨q13, q14, q15⟩ := q9
  rw [q13] at X10
  rw [q13] at q15
  refine r_if_eq (tgt := 32) S dX12_lie_10 (by decide) (fun c16 => ?_) (fun c16 => ?_)
  ·
    have r17 : R (0) (0) v12 := ⟨by omega, by omega⟩
    refine r_iconst S dX12_lie_32 (by decide) (fun v18 z19 => ?_)
    have r20 := R_eq z19
    exact r_ret S hr hlk X10 ⟨I7, F8⟩ rfl dX12_lie_33
  ·
    have r21 : R (1) (1) v12 := ⟨by omega, by omega⟩
    obtain ⟨p22, p23⟩ := q15 (by omega)
    have r24 : R (0) (9) a0 := ⟨by omega, by omega⟩
    obtain ⟨v25, z26⟩ : ∃ x, t4 133 1 = x := ⟨_, rfl⟩
    rw [z26] at p23
    refine r_aload_n S dX12_lie_13 rfl (lv_at hl 0 rfl) ?_
    refine r_iload_n S dX12_lie_14 rfl (lv_at hl 2 rfl) ?_
    refine r_ki (q_V (As := [.int a1]) (rest := []) (K := 38) (ci := 10) S X10 (c_X12_isAsk l G t4 I7 a1 h_a1) ck12_266 (Nat.le_of_ble_eq_true rfl) rfl (fun _ => ⟨_, rfl⟩) ⟨_, _, rfl⟩ ⟨Nat.le_of_ble_eq_true rfl, Nat.le_of_ble_eq_true rfl⟩ rfl hl.1 rfl (Nat.le_of_ble_eq_true rfl) dX12_lie_15 ⟨Nat.le_refl 0, Nat.le_refl 0⟩) X10 (fun v30 t29 H lc q27 X28 => ?_)
    unfold po_X12_isAsk at q27
    obtain ⟨q31, q32, q33⟩ := q27
    rw [q31] at X28
    refine r_if_eq (tgt := 32) S dX12_lie_18 (by decide) (fun c34 => ?_) (fun c34 => ?_)
    ·
      have r35 : R (0) (0) v30 := ⟨by omega, by omega⟩
      refine r_iconst S dX12_lie_32 (by decide) (fun v36 z37 => ?_)
      have r38 := R_eq z37
      exact r_ret S hr hlk X28 ⟨I7, F8⟩ rfl dX12_lie_33
    ·
      have r39 : R (1) (1) v30 := ⟨by omega, by omega⟩
      have p40 := q33 (by omega)
      have r41 : R (0) (8) a1 := ⟨by omega, by omega⟩
      refine r_iload_n S dX12_lie_21 rfl (lv_at hl 3 rfl) ?_
      refine r_bipush S dX12_lie_22 (by decide) (fun v42 z43 => ?_)
      have r44 := R_eq z43
      refine r_bipush S dX12_lie_24 (by decide) (fun v45 z46 => ?_)
      have r47 := R_eq z46
      refine r_ki (q_S (As := [.int a2, .int v42, .int v45]) (rest := []) S X28 (c_X12_isIn l G t4 I7 a2 v42 v45 h_a2 (R_of (lo := -2147483648) (hi := 2147483647) r44 rfl) (R_of (lo := -2147483648) (hi := 2147483647) r47 rfl)) ck12_189 ⟨Nat.le_of_ble_eq_true rfl, Nat.le_of_ble_eq_true rfl⟩ rfl hl.1 rfl (Nat.le_of_ble_eq_true rfl) dX12_lie_26 ⟨Nat.le_refl 0, Nat.le_refl 0⟩) X28 (fun v51 t50 H lc q48 X49 => ?_)
      unfold po_X12_isIn at q48
      obtain ⟨q52, q53, q54⟩ := q48
      rw [q52] at X49
      refine r_if_ne (tgt := 34) S dX12_lie_29 (by decide) (fun c55 => ?_) (fun c55 => ?_)
      ·
        have r56 : R (1) (1) v51 := ⟨by omega, by omega⟩
        obtain ⟨p57, p58⟩ := q54 (by omega)
        have r59 : R (-9) (9) a2 := ⟨by omega, by omega⟩
        refine r_aload_n S dX12_lie_34 rfl (lv_at hl 0 rfl) ?_
        refine r_iload_n S dX12_lie_35 rfl (lv_at hl 1 rfl) ?_
        refine r_iload_n S dX12_lie_36 rfl (lv_at hl 2 rfl) ?_
        refine r_iload_n S dX12_lie_37 rfl (lv_at hl 3 rfl) ?_
        refine r_ki (q_V (As := [.int a0, .int a1, .int a2]) (rest := []) (K := 38) (ci := 10) S X49 (c_X12_whyLie l G t4 I7 a0 a1 a2 r24 r41 (R_of (lo := -2147483648) (hi := 2147483647) r59 rfl)) ck12_317 (Nat.le_of_ble_eq_true rfl) rfl (fun _ => ⟨_, rfl⟩) ⟨_, _, rfl⟩ ⟨Nat.le_of_ble_eq_true rfl, Nat.le_of_ble_eq_true rfl⟩ rfl hl.1 rfl (Nat.le_of_ble_eq_true rfl) dX12_lie_38 ⟨Nat.le_refl 0, Nat.le_refl 0⟩) X49 (fun v63 t62 H lc q60 X61 => ?_)
        unfold po_X12_whyLie at q60
        obtain ⟨q64, q65⟩ := q60
        rw [q64] at X61
        refine r_istore (lv' := [(4, .int v63), (0, .ref (G.2.2.2.1 131)), (1, .int a0), (2, .int a1), (3, .int a2)]) S dX12_lie_41 hl (by decide) rfl (fun ls hl => ?_)
        refine r_iload S dX12_lie_43 (lv_at hl 0 rfl) ?_
        refine r_if_le (tgt := 51) S dX12_lie_45 (by decide) (fun c66 => ?_) (fun c66 => ?_)
        ·
          have r67 : R (0) (0) v63 := ⟨by omega, by omega⟩
          refine r_aload_n S dX12_lie_51 rfl (lv_at hl 1 rfl) ?_
          refine r_kv (q_V (As := []) (rest := []) (K := 38) (ci := 10) S X61 (c_X12_keep l G t4 I7 ) ck12_302 (Nat.le_of_ble_eq_true rfl) rfl (fun _ => ⟨_, rfl⟩) ⟨_, _, rfl⟩ ⟨Nat.le_of_ble_eq_true rfl, Nat.le_of_ble_eq_true rfl⟩ rfl hl.1 rfl (Nat.le_of_ble_eq_true rfl) dX12_lie_52 ⟨Nat.le_refl 0, Nat.le_refl 0⟩) X61 (fun t70 H lc q68 X69 => ?_)
          unfold po_X12_keep at q68
          obtain ⟨q71, q72⟩ := q68
          have F73 : Fr [(131, 0), (131, 24)] [138, 133] τ t70 := Fr_call F8 q72 (by decide)
          refine r_aload_n S dX12_lie_55 rfl (lv_at hl 1 rfl) ?_
          refine r_iload_n S dX12_lie_56 rfl (lv_at hl 2 rfl) ?_
          refine r_iload_n S dX12_lie_57 rfl (lv_at hl 3 rfl) ?_
          refine r_iload_n S dX12_lie_58 rfl (lv_at hl 4 rfl) ?_
          refine r_kv (q_V (As := [.int a0, .int a1, .int a2]) (rest := []) (K := 38) (ci := 10) S X69 (c_X12_tells l G t70 q71 a0 a1 a2 r24 r41 r59) ck12_321 (Nat.le_of_ble_eq_true rfl) rfl (fun _ => ⟨_, rfl⟩) ⟨_, _, rfl⟩ ⟨Nat.le_of_ble_eq_true rfl, Nat.le_of_ble_eq_true rfl⟩ rfl hl.1 rfl (Nat.le_of_ble_eq_true rfl) dX12_lie_59 ⟨Nat.le_refl 0, Nat.le_refl 0⟩) X69 (fun t76 H lc q74 X75 => ?_)
          unfold po_X12_tells at q74
          obtain ⟨q77, q78⟩ := q74
          have F79 : Fr [(131, 0), (131, 24)] [138, 133] τ t76 := Fr_call F73 q78 (by decide)
          refine r_iconst S dX12_lie_62 (by decide) (fun v80 z81 => ?_)
          have r82 := R_eq z81
          exact r_ret S hr hlk X75 ⟨q77, F79⟩ rfl dX12_lie_63
        ·
          have r83 : R (1) (2) v63 := ⟨by omega, by omega⟩
          refine r_iload S dX12_lie_48 (lv_at hl 0 rfl) ?_
          exact r_ret S hr hlk X61 ⟨I7, F8⟩ rfl dX12_lie_50
      ·
        have r84 : R (0) (0) v51 := ⟨by omega, by omega⟩
        refine r_iconst S dX12_lie_32 (by decide) (fun v85 z86 => ?_)
        have r87 := R_eq z86
        exact r_ret S hr hlk X49 ⟨I7, F8⟩ rfl dX12_lie_33
def po_X12_turn (τ : Tau)  (a0 a1 a2 : Int32)   (r : Int32) (u : Tau) : Prop := Inv u ∧ Fr [(131, 0), (131, 24)] [138, 133] τ u
set_option maxHeartbeats 4000000 in
set_option maxRecDepth 100000 in
theorem c_X12_turn (l : Launch) (G : Gx) (τ : Tau) (hI : Inv τ) (a0 : Int32) (a1 : Int32) (a2 : Int32) (h_a0 : R (-2147483648) (2147483647) a0) (h_a1 : R (-2147483648) (2147483647) a1) (h_a2 : R (-2147483648) (2147483647) a2) : Ci l G yX12_turn cX12_turn 4 (some .int) 2 45 [.ref (G.2.2.2.1 131), .int a0, .int a1, .int a2] τ (po_X12_turn τ  a0 a1 a2  ) := by
  unfold Ci
  refine C_of (own := RX12) (by decide) rfl (Nat.le_of_ble_eq_true rfl) ?_
  intro p e s m below meth c ls S hr hlk X hl
  have hl : lv_has ls 4 [(0, .ref (G.2.2.2.1 131)), (1, .int a0), (2, .int a1), (3, .int a2)] := hl
  refine r_aload_n S dX12_turn_0 rfl (lv_at hl 0 rfl) ?_
  refine r_iconst S dX12_turn_1 (by decide) (fun v1 z2 => ?_)
  have r3 := R_eq z2
  refine r_put (K := 38) (ty := .int) S X (Nat.le_of_ble_eq_true rfl) rfl lk12_1_10 (fun _ => ⟨_, rfl, Nat.le_of_ble_eq_true rfl, rfl⟩) (fun _ _ _ h => by cases h; exact ⟨rfl, rfl⟩) rfl rfl dX12_turn_2 (fun t4 H lc M5 X6 => ?_)
  have I7 := Inv_mu hI M5 (R_any v1)
  have F8 : Fr [(131, 0), (131, 24)] [138, 133] τ t4 := Fr_mu Fr_rfl M5 (by decide)
  refine r_aload_n S dX12_turn_5 rfl (lv_at hl 0 rfl) ?_
  refine r_iload_n S dX12_turn_6 rfl (lv_at hl 1 rfl) ?_
  refine r_ki (q_V (As := [.int a0]) (rest := []) (K := 38) (ci := 10) S X6 (c_X12_isMan l G t4 I7 a0 h_a0) ck12_252 (Nat.le_of_ble_eq_true rfl) rfl (fun _ => ⟨_, rfl⟩) ⟨_, _, rfl⟩ ⟨Nat.le_of_ble_eq_true rfl, Nat.le_of_ble_eq_true rfl⟩ rfl hl.1 rfl (Nat.le_of_ble_eq_true rfl) dX12_turn_7 ⟨Nat.le_refl 0, Nat.le_refl 0⟩) X6 (fun v12 t11 H lc q9 X10 => ?_)
  unfold po_X12_isMan at q9
  obtain ⟨q13, q14, q15⟩ := q9
  rw [q13] at X10
  rw [q13] at q15
  refine r_if_eq (tgt := 32) S dX12_turn_10 (by decide) (fun c16 => ?_) (fun c16 => ?_)
  ·
    have r17 : R (0) (0) v12 := ⟨by omega, by omega⟩
    refine r_iconst S dX12_turn_32 (by decide) (fun v18 z19 => ?_)
    have r20 := R_eq z19
    exact r_ret S hr hlk X10 ⟨I7, F8⟩ rfl dX12_turn_33
  ·
    have r21 : R (1) (1) v12 := ⟨by omega, by omega⟩
    obtain ⟨p22, p23⟩ := q15 (by omega)
    have r24 : R (0) (9) a0 := ⟨by omega, by omega⟩
    obtain ⟨v25, z26⟩ : ∃ x, t4 133 1 = x := ⟨_, rfl⟩
    rw [z26] at p23
    refine r_aload_n S dX12_turn_13 rfl (lv_at hl 0 rfl) ?_
    refine r_iload_n S dX12_turn_14 rfl (lv_at hl 2 rfl) ?_
    refine r_ki (q_V (As := [.int a1]) (rest := []) (K := 38) (ci := 10) S X10 (c_X12_isAsk l G t4 I7 a1 h_a1) ck12_266 (Nat.le_of_ble_eq_true rfl) rfl (fun _ => ⟨_, rfl⟩) ⟨_, _, rfl⟩ ⟨Nat.le_of_ble_eq_true rfl, Nat.le_of_ble_eq_true rfl⟩ rfl hl.1 rfl (Nat.le_of_ble_eq_true rfl) dX12_turn_15 ⟨Nat.le_refl 0, Nat.le_refl 0⟩) X10 (fun v30 t29 H lc q27 X28 => ?_)
    unfold po_X12_isAsk at q27
    obtain ⟨q31, q32, q33⟩ := q27
    rw [q31] at X28
    refine r_if_eq (tgt := 32) S dX12_turn_18 (by decide) (fun c34 => ?_) (fun c34 => ?_)
    ·
      have r35 : R (0) (0) v30 := ⟨by omega, by omega⟩
      refine r_iconst S dX12_turn_32 (by decide) (fun v36 z37 => ?_)
      have r38 := R_eq z37
      exact r_ret S hr hlk X28 ⟨I7, F8⟩ rfl dX12_turn_33
    ·
      have r39 : R (1) (1) v30 := ⟨by omega, by omega⟩
      have p40 := q33 (by omega)
      have r41 : R (0) (8) a1 := ⟨by omega, by omega⟩
      refine r_iload_n S dX12_turn_21 rfl (lv_at hl 3 rfl) ?_
      refine r_bipush S dX12_turn_22 (by decide) (fun v42 z43 => ?_)
      have r44 := R_eq z43
      refine r_bipush S dX12_turn_24 (by decide) (fun v45 z46 => ?_)
      have r47 := R_eq z46
      refine r_ki (q_S (As := [.int a2, .int v42, .int v45]) (rest := []) S X28 (c_X12_isIn l G t4 I7 a2 v42 v45 h_a2 (R_of (lo := -2147483648) (hi := 2147483647) r44 rfl) (R_of (lo := -2147483648) (hi := 2147483647) r47 rfl)) ck12_189 ⟨Nat.le_of_ble_eq_true rfl, Nat.le_of_ble_eq_true rfl⟩ rfl hl.1 rfl (Nat.le_of_ble_eq_true rfl) dX12_turn_26 ⟨Nat.le_refl 0, Nat.le_refl 0⟩) X28 (fun v51 t50 H lc q48 X49 => ?_)
      unfold po_X12_isIn at q48
      obtain ⟨q52, q53, q54⟩ := q48
      rw [q52] at X49
      refine r_if_ne (tgt := 34) S dX12_turn_29 (by decide) (fun c55 => ?_) (fun c55 => ?_)
      ·
        have r56 : R (1) (1) v51 := ⟨by omega, by omega⟩
        obtain ⟨p57, p58⟩ := q54 (by omega)
        have r59 : R (-9) (9) a2 := ⟨by omega, by omega⟩
        refine r_aload_n S dX12_turn_34 rfl (lv_at hl 0 rfl) ?_
        refine r_iload_n S dX12_turn_35 rfl (lv_at hl 1 rfl) ?_
        refine r_iload_n S dX12_turn_36 rfl (lv_at hl 2 rfl) ?_
        refine r_iload_n S dX12_turn_37 rfl (lv_at hl 3 rfl) ?_
        refine r_ki (q_V (As := [.int a0, .int a1, .int a2]) (rest := []) (K := 38) (ci := 10) S X49 (c_X12_whyTurn l G t4 I7 a0 a1 a2 r24 r41 (R_of (lo := -2147483648) (hi := 2147483647) r59 rfl)) ck12_325 (Nat.le_of_ble_eq_true rfl) rfl (fun _ => ⟨_, rfl⟩) ⟨_, _, rfl⟩ ⟨Nat.le_of_ble_eq_true rfl, Nat.le_of_ble_eq_true rfl⟩ rfl hl.1 rfl (Nat.le_of_ble_eq_true rfl) dX12_turn_38 ⟨Nat.le_refl 0, Nat.le_refl 0⟩) X49 (fun v63 t62 H lc q60 X61 => ?_)
        unfold po_X12_whyTurn at q60
        obtain ⟨q64, q65⟩ := q60
        rw [q64] at X61
        refine r_if_le (tgt := 46) S dX12_turn_41 (by decide) (fun c66 => ?_) (fun c66 => ?_)
        ·
          have r67 : R (0) (0) v63 := ⟨by omega, by omega⟩
          refine r_aload_n S dX12_turn_46 rfl (lv_at hl 0 rfl) ?_
          refine r_kv (q_V (As := []) (rest := []) (K := 38) (ci := 10) S X61 (c_X12_keep l G t4 I7 ) ck12_302 (Nat.le_of_ble_eq_true rfl) rfl (fun _ => ⟨_, rfl⟩) ⟨_, _, rfl⟩ ⟨Nat.le_of_ble_eq_true rfl, Nat.le_of_ble_eq_true rfl⟩ rfl hl.1 rfl (Nat.le_of_ble_eq_true rfl) dX12_turn_47 ⟨Nat.le_refl 0, Nat.le_refl 0⟩) X61 (fun t70 H lc q68 X69 => ?_)
          unfold po_X12_keep at q68
          obtain ⟨q71, q72⟩ := q68
          have F73 : Fr [(131, 0), (131, 24)] [138, 133] τ t70 := Fr_call F8 q72 (by decide)
          refine r_aload_n S dX12_turn_50 rfl (lv_at hl 0 rfl) ?_
          refine r_iload_n S dX12_turn_51 rfl (lv_at hl 1 rfl) ?_
          refine r_iload_n S dX12_turn_52 rfl (lv_at hl 2 rfl) ?_
          refine r_iload_n S dX12_turn_53 rfl (lv_at hl 3 rfl) ?_
          refine r_kv (q_V (As := [.int a0, .int a1, .int a2]) (rest := []) (K := 38) (ci := 10) S X69 (c_X12_turns l G t70 q71 a0 a1 a2 r24 r41 r59) ck12_328 (Nat.le_of_ble_eq_true rfl) rfl (fun _ => ⟨_, rfl⟩) ⟨_, _, rfl⟩ ⟨Nat.le_of_ble_eq_true rfl, Nat.le_of_ble_eq_true rfl⟩ rfl hl.1 rfl (Nat.le_of_ble_eq_true rfl) dX12_turn_54 ⟨Nat.le_refl 0, Nat.le_refl 0⟩) X69 (fun t76 H lc q74 X75 => ?_)
          unfold po_X12_turns at q74
          obtain ⟨q77, q78⟩ := q74
          have F79 : Fr [(131, 0), (131, 24)] [138, 133] τ t76 := Fr_call F73 q78 (by decide)
          refine r_iconst S dX12_turn_57 (by decide) (fun v80 z81 => ?_)
          have r82 := R_eq z81
          exact r_ret S hr hlk X75 ⟨q77, F79⟩ rfl dX12_turn_58
        ·
          have r83 : R (1) (1) v63 := ⟨by omega, by omega⟩
          refine r_iconst S dX12_turn_44 (by decide) (fun v84 z85 => ?_)
          have r86 := R_eq z85
          exact r_ret S hr hlk X61 ⟨I7, F8⟩ rfl dX12_turn_45
      ·
        have r87 : R (0) (0) v51 := ⟨by omega, by omega⟩
        refine r_iconst S dX12_turn_32 (by decide) (fun v88 z89 => ?_)
        have r90 := R_eq z89
        exact r_ret S hr hlk X49 ⟨I7, F8⟩ rfl dX12_turn_33
def po_X12_drawn (τ : Tau)  (a0 a1 : Int32)   (r : Int32) (u : Tau) : Prop := Inv u ∧ Fr [(131, 0), (131, 24), (131, 36)] [138, 133] τ u
set_option maxHeartbeats 4000000 in
set_option maxRecDepth 100000 in
theorem c_X12_drawn (l : Launch) (G : Gx) (τ : Tau) (hI : Inv τ) (a0 : Int32) (a1 : Int32) (h_a0 : R (-2147483648) (2147483647) a0) (h_a1 : R (-2147483648) (2147483647) a1) : Ci l G yX12_drawn cX12_drawn 3 (some .int) 7 164 [.ref (G.2.2.2.1 131), .int a0, .int a1] τ (po_X12_drawn τ  a0 a1  ) := by
  unfold Ci
  refine C_of (own := RX12) (by decide) rfl (Nat.le_of_ble_eq_true rfl) ?_
  intro p e s m below meth c ls S hr hlk X hl
  have hl : lv_has ls 3 [(0, .ref (G.2.2.2.1 131)), (1, .int a0), (2, .int a1)] := hl
  refine r_aload_n S dX12_drawn_0 rfl (lv_at hl 0 rfl) ?_
  refine r_iconst S dX12_drawn_1 (by decide) (fun v1 z2 => ?_)
  have r3 := R_eq z2
  refine r_put (K := 38) (ty := .int) S X (Nat.le_of_ble_eq_true rfl) rfl lk12_1_10 (fun _ => ⟨_, rfl, Nat.le_of_ble_eq_true rfl, rfl⟩) (fun _ _ _ h => by cases h; exact ⟨rfl, rfl⟩) rfl rfl dX12_drawn_2 (fun t4 H lc M5 X6 => ?_)
  have I7 := Inv_mu hI M5 (R_any v1)
  have F8 : Fr [(131, 0), (131, 24), (131, 36)] [138, 133] τ t4 := Fr_mu Fr_rfl M5 (by decide)
  refine r_iload_n S dX12_drawn_5 rfl (lv_at hl 1 rfl) ?_
  refine r_iconst S dX12_drawn_6 (by decide) (fun v9 z10 => ?_)
  have r11 := R_eq z10
  refine r_bipush S dX12_drawn_7 (by decide) (fun v12 z13 => ?_)
  have r14 := R_eq z13
  refine r_ki (q_S (As := [.int a0, .int v9, .int v12]) (rest := []) S X6 (c_X12_isIn l G t4 I7 a0 v9 v12 h_a0 (R_of (lo := -2147483648) (hi := 2147483647) r11 rfl) (R_of (lo := -2147483648) (hi := 2147483647) r14 rfl)) ck12_189 ⟨Nat.le_of_ble_eq_true rfl, Nat.le_of_ble_eq_true rfl⟩ rfl hl.1 rfl (Nat.le_of_ble_eq_true rfl) dX12_drawn_9 ⟨Nat.le_refl 0, Nat.le_refl 0⟩) X6 (fun v18 t17 H lc q15 X16 => ?_)
  unfold po_X12_isIn at q15
  obtain ⟨q19, q20, q21⟩ := q15
  rw [q19] at X16
  refine r_if_eq (tgt := 24) S dX12_drawn_12 (by decide) (fun c22 => ?_) (fun c22 => ?_)
  ·
    have r23 : R (0) (0) v18 := ⟨by omega, by omega⟩
    refine r_iconst S dX12_drawn_24 (by decide) (fun v24 z25 => ?_)
    have r26 := R_eq z25
    exact r_ret S hr hlk X16 ⟨I7, F8⟩ rfl dX12_drawn_25
  ·
    have r27 : R (1) (1) v18 := ⟨by omega, by omega⟩
    obtain ⟨p28, p29⟩ := q21 (by omega)
    have r30 : R (1) (40) a0 := ⟨by omega, by omega⟩
    refine r_aload_n S dX12_drawn_15 rfl (lv_at hl 0 rfl) ?_
    refine r_get (K := 38) (v := .ref (G.2.2.2.1 133)) S X16 (Nat.le_of_ble_eq_true rfl) rfl lk12_33_10 (fun _ => ⟨_, rfl, rfl⟩) dX12_drawn_16 ?_
    refine r_iconst S dX12_drawn_19 (by decide) (fun v31 z32 => ?_)
    have r33 := R_eq z32
    refine r_aldn (n := 513) (K := 40) S X16 (Nat.le_of_ble_eq_true rfl) rfl (fun _ => rfl) (ix_of r33 rfl) dX12_drawn_20 (fun v34 z35 => ?_)
    have r36 : R (0) (10) v34 := rds (K := 40) (a := 1) (n := 1) I7 rfl z35 (R_of r33 rfl) (by decide +kernel)
    refine r_if_ne (tgt := 26) S dX12_drawn_21 (by decide) (fun c37 => ?_) (fun c37 => ?_)
    ·
      have r38 : R (1) (10) v34 := ⟨by omega, by omega⟩
      refine r_aload_n S dX12_drawn_26 rfl (lv_at hl 0 rfl) ?_
      refine r_kv (q_V (As := []) (rest := []) (K := 38) (ci := 10) S X16 (c_X12_keep l G t4 I7 ) ck12_302 (Nat.le_of_ble_eq_true rfl) rfl (fun _ => ⟨_, rfl⟩) ⟨_, _, rfl⟩ ⟨Nat.le_of_ble_eq_true rfl, Nat.le_of_ble_eq_true rfl⟩ rfl hl.1 rfl (Nat.le_of_ble_eq_true rfl) dX12_drawn_27 ⟨Nat.le_refl 0, Nat.le_refl 0⟩) X16 (fun t41 H lc q39 X40 => ?_)
      unfold po_X12_keep at q39
      obtain ⟨q42, q43⟩ := q39
      have F44 : Fr [(131, 0), (131, 24), (131, 36)] [138, 133] τ t41 := Fr_call F8 q43 (by decide)
      refine r_aload_n S dX12_drawn_30 rfl (lv_at hl 0 rfl) ?_
      refine r_iload_n S dX12_drawn_31 rfl (lv_at hl 1 rfl) ?_
      refine r_iload_n S dX12_drawn_32 rfl (lv_at hl 2 rfl) ?_
      refine r_ki (q_V (As := [.int a0, .int a1]) (rest := []) (K := 38) (ci := 10) S X40 (c_X12_draws l G t41 q42 a0 a1 r30 h_a1 (by rw [((q43 133 1 (by decide)).trans (zc (n := 1) (by omega) z35))]; exact R_of r38 rfl)) ck12_376 (Nat.le_of_ble_eq_true rfl) rfl (fun _ => ⟨_, rfl⟩) ⟨_, _, rfl⟩ ⟨Nat.le_of_ble_eq_true rfl, Nat.le_of_ble_eq_true rfl⟩ rfl hl.1 rfl (Nat.le_of_ble_eq_true rfl) dX12_drawn_33 ⟨Nat.le_refl 0, Nat.le_refl 0⟩) X40 (fun v48 t47 H lc q45 X46 => ?_)
      unfold po_X12_draws at q45
      obtain ⟨q49, q50⟩ := q45
      have F51 : Fr [(131, 0), (131, 24), (131, 36)] [138, 133] τ t47 := Fr_call F44 q50 (by decide)
      have r52 := R_any v48
      exact r_ret S hr hlk X46 ⟨q49, F51⟩ rfl dX12_drawn_36
    ·
      have r53 : R (0) (0) v34 := ⟨by omega, by omega⟩
      refine r_iconst S dX12_drawn_24 (by decide) (fun v54 z55 => ?_)
      have r56 := R_eq z55
      exact r_ret S hr hlk X16 ⟨I7, F8⟩ rfl dX12_drawn_25
def po_X12_odds (τ : Tau)  (a0 a1 a2 : Int32)   (r : Int32) (u : Tau) : Prop := Inv u ∧ Fr [(131, 0), (131, 36), (133, 125), (133, 126), (133, 127), (133, 128), (133, 129), (133, 130), (133, 131), (133, 132), (133, 133), (133, 134), (133, 135), (133, 136), (133, 137), (133, 138), (133, 139), (133, 140), (133, 141), (133, 142), (133, 143), (133, 144), (133, 145), (133, 146), (133, 147), (133, 148), (133, 149), (133, 150), (133, 151), (133, 152), (133, 153), (133, 154), (133, 155), (133, 156), (133, 157), (133, 158), (133, 159), (133, 160), (133, 161), (133, 162), (133, 163), (133, 164), (133, 165), (133, 166), (133, 167), (133, 168), (133, 169), (133, 170), (133, 171), (133, 172), (133, 173), (133, 174), (133, 175), (133, 176), (133, 177), (133, 178), (133, 179), (133, 180), (133, 181), (133, 182), (133, 183), (133, 184), (133, 185), (133, 186), (133, 187), (133, 188), (133, 189), (133, 190), (133, 191), (133, 192), (133, 193), (133, 194), (133, 195), (133, 196), (133, 197), (133, 198), (133, 199), (133, 200), (133, 201), (133, 202), (133, 203), (133, 204), (133, 205), (133, 206), (133, 207), (133, 208), (133, 209), (133, 210), (133, 211), (133, 212), (133, 213), (133, 214), (133, 215), (133, 216), (133, 217), (133, 218), (133, 219), (133, 220), (133, 221), (133, 222), (133, 223), (133, 224), (133, 225), (133, 226), (133, 227), (133, 228), (133, 229), (133, 230), (133, 231), (133, 232), (133, 233), (133, 234), (133, 235), (133, 236), (133, 237), (133, 238), (133, 239), (133, 240), (133, 241), (133, 242), (133, 243), (133, 244), (133, 245), (133, 246), (133, 247), (133, 248), (133, 249), (133, 250), (133, 251), (133, 252), (133, 253), (133, 254), (133, 255), (133, 256), (133, 257), (133, 258), (133, 259), (133, 260), (133, 261), (133, 262), (133, 263), (133, 264), (133, 265), (133, 266), (133, 267), (133, 268), (133, 269), (133, 270), (133, 271), (133, 272), (133, 273), (133, 274), (133, 275), (133, 276), (133, 277), (133, 278), (133, 279), (133, 280), (133, 281), (133, 282), (133, 283), (133, 284), (133, 285), (133, 286), (133, 287), (133, 288), (133, 289), (133, 290), (133, 291), (133, 292), (133, 293), (133, 294), (133, 295), (133, 296), (133, 297), (133, 298), (133, 299), (133, 300), (133, 301), (133, 302), (133, 303), (133, 304), (133, 305), (133, 306), (133, 307), (133, 308), (133, 309), (133, 310), (133, 311), (133, 312), (133, 313), (133, 314), (133, 315), (133, 316), (133, 317), (133, 318), (133, 319), (133, 320), (133, 321), (133, 322), (133, 323), (133, 324), (133, 325), (133, 326), (133, 327), (133, 328), (133, 329), (133, 330), (133, 331)] [139] τ u
set_option maxHeartbeats 4000000 in
set_option maxRecDepth 100000 in
theorem c_X12_odds (l : Launch) (G : Gx) (τ : Tau) (hI : Inv τ) (a0 : Int32) (a1 : Int32) (a2 : Int32) (h_a0 : R (-2147483648) (2147483647) a0) (h_a1 : R (-2147483648) (2147483647) a1) (h_a2 : R (-2147483648) (2147483647) a2) : Ci l G yX12_odds cX12_odds 6 (some .int) 7 164 [.ref (G.2.2.2.1 131), .int a0, .int a1, .int a2] τ (po_X12_odds τ  a0 a1 a2  ) := by
  unfold Ci
  refine C_of (own := RX12) (by decide) rfl (Nat.le_of_ble_eq_true rfl) ?_
  intro p e s m below meth c ls S hr hlk X hl
  have hl : lv_has ls 6 [(0, .ref (G.2.2.2.1 131)), (1, .int a0), (2, .int a1), (3, .int a2)] := hl
  refine r_aload_n S dX12_odds_0 rfl (lv_at hl 0 rfl) ?_
  refine r_iconst S dX12_odds_1 (by decide) (fun v1 z2 => ?_)
  have r3 := R_eq z2
  refine r_put (K := 38) (ty := .int) S X (Nat.le_of_ble_eq_true rfl) rfl lk12_1_10 (fun _ => ⟨_, rfl, Nat.le_of_ble_eq_true rfl, rfl⟩) (fun _ _ _ h => by cases h; exact ⟨rfl, rfl⟩) rfl rfl dX12_odds_2 (fun t4 H lc M5 X6 => ?_)
  have I7 := Inv_mu hI M5 (R_any v1)
  have F8 : Fr [(131, 0), (131, 36), (133, 125), (133, 126), (133, 127), (133, 128), (133, 129), (133, 130), (133, 131), (133, 132), (133, 133), (133, 134), (133, 135), (133, 136), (133, 137), (133, 138), (133, 139), (133, 140), (133, 141), (133, 142), (133, 143), (133, 144), (133, 145), (133, 146), (133, 147), (133, 148), (133, 149), (133, 150), (133, 151), (133, 152), (133, 153), (133, 154), (133, 155), (133, 156), (133, 157), (133, 158), (133, 159), (133, 160), (133, 161), (133, 162), (133, 163), (133, 164), (133, 165), (133, 166), (133, 167), (133, 168), (133, 169), (133, 170), (133, 171), (133, 172), (133, 173), (133, 174), (133, 175), (133, 176), (133, 177), (133, 178), (133, 179), (133, 180), (133, 181), (133, 182), (133, 183), (133, 184), (133, 185), (133, 186), (133, 187), (133, 188), (133, 189), (133, 190), (133, 191), (133, 192), (133, 193), (133, 194), (133, 195), (133, 196), (133, 197), (133, 198), (133, 199), (133, 200), (133, 201), (133, 202), (133, 203), (133, 204), (133, 205), (133, 206), (133, 207), (133, 208), (133, 209), (133, 210), (133, 211), (133, 212), (133, 213), (133, 214), (133, 215), (133, 216), (133, 217), (133, 218), (133, 219), (133, 220), (133, 221), (133, 222), (133, 223), (133, 224), (133, 225), (133, 226), (133, 227), (133, 228), (133, 229), (133, 230), (133, 231), (133, 232), (133, 233), (133, 234), (133, 235), (133, 236), (133, 237), (133, 238), (133, 239), (133, 240), (133, 241), (133, 242), (133, 243), (133, 244), (133, 245), (133, 246), (133, 247), (133, 248), (133, 249), (133, 250), (133, 251), (133, 252), (133, 253), (133, 254), (133, 255), (133, 256), (133, 257), (133, 258), (133, 259), (133, 260), (133, 261), (133, 262), (133, 263), (133, 264), (133, 265), (133, 266), (133, 267), (133, 268), (133, 269), (133, 270), (133, 271), (133, 272), (133, 273), (133, 274), (133, 275), (133, 276), (133, 277), (133, 278), (133, 279), (133, 280), (133, 281), (133, 282), (133, 283), (133, 284), (133, 285), (133, 286), (133, 287), (133, 288), (133, 289), (133, 290), (133, 291), (133, 292), (133, 293), (133, 294), (133, 295), (133, 296), (133, 297), (133, 298), (133, 299), (133, 300), (133, 301), (133, 302), (133, 303), (133, 304), (133, 305), (133, 306), (133, 307), (133, 308), (133, 309), (133, 310), (133, 311), (133, 312), (133, 313), (133, 314), (133, 315), (133, 316), (133, 317), (133, 318), (133, 319), (133, 320), (133, 321), (133, 322), (133, 323), (133, 324), (133, 325), (133, 326), (133, 327), (133, 328), (133, 329), (133, 330), (133, 331)] [139] τ t4 := Fr_mu Fr_rfl M5 (by decide)
  refine r_aload_n S dX12_odds_5 rfl (lv_at hl 0 rfl) ?_
  refine r_iload_n S dX12_odds_6 rfl (lv_at hl 1 rfl) ?_
  refine r_ki (q_V (As := [.int a0]) (rest := []) (K := 38) (ci := 10) S X6 (c_X12_isMan l G t4 I7 a0 h_a0) ck12_252 (Nat.le_of_ble_eq_true rfl) rfl (fun _ => ⟨_, rfl⟩) ⟨_, _, rfl⟩ ⟨Nat.le_of_ble_eq_true rfl, Nat.le_of_ble_eq_true rfl⟩ rfl hl.1 rfl (Nat.le_of_ble_eq_true rfl) dX12_odds_7 ⟨Nat.le_refl 0, Nat.le_refl 0⟩) X6 (fun v12 t11 H lc q9 X10 => ?_)
  unfold po_X12_isMan at q9
  obtain ⟨q13, q14, q15⟩ := q9
  rw [q13] at X10
  rw [q13] at q15
  refine r_if_eq (tgt := 23) S dX12_odds_10 (by decide) (fun c16 => ?_) (fun c16 => ?_)
  ·
    have r17 : R (0) (0) v12 := ⟨by omega, by omega⟩
    refine r_iconst S dX12_odds_23 (by decide) (fun v18 z19 => ?_)
    have r20 := R_eq z19
    exact r_ret S hr hlk X10 ⟨I7, F8⟩ rfl dX12_odds_24
  ·
    have r21 : R (1) (1) v12 := ⟨by omega, by omega⟩
    obtain ⟨p22, p23⟩ := q15 (by omega)
    have r24 : R (0) (9) a0 := ⟨by omega, by omega⟩
    obtain ⟨v25, z26⟩ : ∃ x, t4 133 1 = x := ⟨_, rfl⟩
    rw [z26] at p23
    refine r_iload_n S dX12_odds_13 rfl (lv_at hl 2 rfl) ?_
    refine r_iconst S dX12_odds_14 (by decide) (fun v27 z28 => ?_)
    have r29 := R_eq z28
    refine r_bipush S dX12_odds_15 (by decide) (fun v30 z31 => ?_)
    have r32 := R_eq z31
    refine r_ki (q_S (As := [.int a1, .int v27, .int v30]) (rest := []) S X10 (c_X12_isIn l G t4 I7 a1 v27 v30 h_a1 (R_of (lo := -2147483648) (hi := 2147483647) r29 rfl) (R_of (lo := -2147483648) (hi := 2147483647) r32 rfl)) ck12_189 ⟨Nat.le_of_ble_eq_true rfl, Nat.le_of_ble_eq_true rfl⟩ rfl hl.1 rfl (Nat.le_of_ble_eq_true rfl) dX12_odds_17 ⟨Nat.le_refl 0, Nat.le_refl 0⟩) X10 (fun v36 t35 H lc q33 X34 => ?_)
    unfold po_X12_isIn at q33
    obtain ⟨q37, q38, q39⟩ := q33
    rw [q37] at X34
    refine r_if_ne (tgt := 25) S dX12_odds_20 (by decide) (fun c40 => ?_) (fun c40 => ?_)
    ·
      have r41 : R (1) (1) v36 := ⟨by omega, by omega⟩
      obtain ⟨p42, p43⟩ := q39 (by omega)
      have r44 : R (1) (40) a1 := ⟨by omega, by omega⟩
      refine r_aload_n S dX12_odds_25 rfl (lv_at hl 0 rfl) ?_
      refine r_kv (q_V (As := []) (rest := []) (K := 38) (ci := 10) S X34 (c_X12_tries l G t4 I7 ) ck12_379 (Nat.le_of_ble_eq_true rfl) rfl (fun _ => ⟨_, rfl⟩) ⟨_, _, rfl⟩ ⟨Nat.le_of_ble_eq_true rfl, Nat.le_of_ble_eq_true rfl⟩ rfl hl.1 rfl (Nat.le_of_ble_eq_true rfl) dX12_odds_26 ⟨Nat.le_refl 0, Nat.le_refl 0⟩) X34 (fun t47 H lc q45 X46 => ?_)
      unfold po_X12_tries at q45
      obtain ⟨q48, q49⟩ := q45
      have F50 : Fr [(131, 0), (131, 36), (133, 125), (133, 126), (133, 127), (133, 128), (133, 129), (133, 130), (133, 131), (133, 132), (133, 133), (133, 134), (133, 135), (133, 136), (133, 137), (133, 138), (133, 139), (133, 140), (133, 141), (133, 142), (133, 143), (133, 144), (133, 145), (133, 146), (133, 147), (133, 148), (133, 149), (133, 150), (133, 151), (133, 152), (133, 153), (133, 154), (133, 155), (133, 156), (133, 157), (133, 158), (133, 159), (133, 160), (133, 161), (133, 162), (133, 163), (133, 164), (133, 165), (133, 166), (133, 167), (133, 168), (133, 169), (133, 170), (133, 171), (133, 172), (133, 173), (133, 174), (133, 175), (133, 176), (133, 177), (133, 178), (133, 179), (133, 180), (133, 181), (133, 182), (133, 183), (133, 184), (133, 185), (133, 186), (133, 187), (133, 188), (133, 189), (133, 190), (133, 191), (133, 192), (133, 193), (133, 194), (133, 195), (133, 196), (133, 197), (133, 198), (133, 199), (133, 200), (133, 201), (133, 202), (133, 203), (133, 204), (133, 205), (133, 206), (133, 207), (133, 208), (133, 209), (133, 210), (133, 211), (133, 212), (133, 213), (133, 214), (133, 215), (133, 216), (133, 217), (133, 218), (133, 219), (133, 220), (133, 221), (133, 222), (133, 223), (133, 224), (133, 225), (133, 226), (133, 227), (133, 228), (133, 229), (133, 230), (133, 231), (133, 232), (133, 233), (133, 234), (133, 235), (133, 236), (133, 237), (133, 238), (133, 239), (133, 240), (133, 241), (133, 242), (133, 243), (133, 244), (133, 245), (133, 246), (133, 247), (133, 248), (133, 249), (133, 250), (133, 251), (133, 252), (133, 253), (133, 254), (133, 255), (133, 256), (133, 257), (133, 258), (133, 259), (133, 260), (133, 261), (133, 262), (133, 263), (133, 264), (133, 265), (133, 266), (133, 267), (133, 268), (133, 269), (133, 270), (133, 271), (133, 272), (133, 273), (133, 274), (133, 275), (133, 276), (133, 277), (133, 278), (133, 279), (133, 280), (133, 281), (133, 282), (133, 283), (133, 284), (133, 285), (133, 286), (133, 287), (133, 288), (133, 289), (133, 290), (133, 291), (133, 292), (133, 293), (133, 294), (133, 295), (133, 296), (133, 297), (133, 298), (133, 299), (133, 300), (133, 301), (133, 302), (133, 303), (133, 304), (133, 305), (133, 306), (133, 307), (133, 308), (133, 309), (133, 310), (133, 311), (133, 312), (133, 313), (133, 314), (133, 315), (133, 316), (133, 317), (133, 318), (133, 319), (133, 320), (133, 321), (133, 322), (133, 323), (133, 324), (133, 325), (133, 326), (133, 327), (133, 328), (133, 329), (133, 330), (133, 331)] [139] τ t47 := Fr_call F8 q49 (by decide)
      refine r_iconst S dX12_odds_29 (by decide) (fun v51 z52 => ?_)
      have r53 := R_eq z52
      refine r_istore (lv' := [(4, .int v51), (0, .ref (G.2.2.2.1 131)), (1, .int a0), (2, .int a1), (3, .int a2)]) S dX12_odds_30 hl (by decide) rfl (fun ls hl => ?_)
      refine r_iconst S dX12_odds_32 (by decide) (fun v54 z55 => ?_)
      have r56 := R_eq z55
      refine r_istore (lv' := [(5, .int v54), (4, .int v51), (0, .ref (G.2.2.2.1 131)), (1, .int a0), (2, .int a1), (3, .int a2)]) S dX12_odds_33 hl (by decide) rfl (fun ls hl => ?_)
      have L2165 : ∀ (n : Nat) (t2159 : Tau) (H : Heap) (lc : List Loc) (ls : Array Slot) (i2155 : Int32) (i2157 : Int32), Xd G s H lc t2159 → Inv t2159 → Fr [(131, 0), (131, 36), (133, 125), (133, 126), (133, 127), (133, 128), (133, 129), (133, 130), (133, 131), (133, 132), (133, 133), (133, 134), (133, 135), (133, 136), (133, 137), (133, 138), (133, 139), (133, 140), (133, 141), (133, 142), (133, 143), (133, 144), (133, 145), (133, 146), (133, 147), (133, 148), (133, 149), (133, 150), (133, 151), (133, 152), (133, 153), (133, 154), (133, 155), (133, 156), (133, 157), (133, 158), (133, 159), (133, 160), (133, 161), (133, 162), (133, 163), (133, 164), (133, 165), (133, 166), (133, 167), (133, 168), (133, 169), (133, 170), (133, 171), (133, 172), (133, 173), (133, 174), (133, 175), (133, 176), (133, 177), (133, 178), (133, 179), (133, 180), (133, 181), (133, 182), (133, 183), (133, 184), (133, 185), (133, 186), (133, 187), (133, 188), (133, 189), (133, 190), (133, 191), (133, 192), (133, 193), (133, 194), (133, 195), (133, 196), (133, 197), (133, 198), (133, 199), (133, 200), (133, 201), (133, 202), (133, 203), (133, 204), (133, 205), (133, 206), (133, 207), (133, 208), (133, 209), (133, 210), (133, 211), (133, 212), (133, 213), (133, 214), (133, 215), (133, 216), (133, 217), (133, 218), (133, 219), (133, 220), (133, 221), (133, 222), (133, 223), (133, 224), (133, 225), (133, 226), (133, 227), (133, 228), (133, 229), (133, 230), (133, 231), (133, 232), (133, 233), (133, 234), (133, 235), (133, 236), (133, 237), (133, 238), (133, 239), (133, 240), (133, 241), (133, 242), (133, 243), (133, 244), (133, 245), (133, 246), (133, 247), (133, 248), (133, 249), (133, 250), (133, 251), (133, 252), (133, 253), (133, 254), (133, 255), (133, 256), (133, 257), (133, 258), (133, 259), (133, 260), (133, 261), (133, 262), (133, 263), (133, 264), (133, 265), (133, 266), (133, 267), (133, 268), (133, 269), (133, 270), (133, 271), (133, 272), (133, 273), (133, 274), (133, 275), (133, 276), (133, 277), (133, 278), (133, 279), (133, 280), (133, 281), (133, 282), (133, 283), (133, 284), (133, 285), (133, 286), (133, 287), (133, 288), (133, 289), (133, 290), (133, 291), (133, 292), (133, 293), (133, 294), (133, 295), (133, 296), (133, 297), (133, 298), (133, 299), (133, 300), (133, 301), (133, 302), (133, 303), (133, 304), (133, 305), (133, 306), (133, 307), (133, 308), (133, 309), (133, 310), (133, 311), (133, 312), (133, 313), (133, 314), (133, 315), (133, 316), (133, 317), (133, 318), (133, 319), (133, 320), (133, 321), (133, 322), (133, 323), (133, 324), (133, 325), (133, 326), (133, 327), (133, 328), (133, 329), (133, 330), (133, 331)] [139] τ t2159 → R (-2147483648) (2147483647) i2155 → R (0) (40) i2157 → t2159 131 0 = v1 → t2159 133 1 = v25 → lv_has ls 6 [(0, .ref (G.2.2.2.1 131)), (1, .int a0), (2, .int a1), (3, .int a2), (4, .int i2155), (5, .int i2157)] → (40 - i2157.toInt).toNat < n → W p l e (Rm 7 164) s m ([.ref (G.2.2.2.1 131), .int a0, .int a1, .int a2] : List Value).toArray below meth c H lc 0 0 (MQ below (va_Qi (po_X12_odds τ  a0 a1 a2  ) (Bs G) G.2.2.2.2) ([.ref (G.2.2.2.1 131), .int a0, .int a1, .int a2] : List Value).toArray s 0 0 G.2.2.2.2) (F0 m 35 ls []) := by
        intro n
        induction n with
        | zero => intros; omega
        | succ n ih2166 =>
          intro t2159 H lc ls i2155 i2157 X2162 I2160 F2161 r2156 r2158 z2163 z2164 hl hm
          refine r_iload S dX12_odds_35 (lv_at hl 5 rfl) ?_
          refine r_iload_n S dX12_odds_37 rfl (lv_at hl 2 rfl) ?_
          refine r_icmp_ge (tgt := 72) S dX12_odds_38 (by decide) (fun c2167 => ?_) (fun c2167 => ?_)
          ·
            have r2168 : R (1) (40) i2157 := ⟨by omega, by omega⟩
            refine r_iload S dX12_odds_72 (lv_at hl 4 rfl) ?_
            exact r_ret S hr hlk X2162 ⟨I2160, F2161⟩ rfl dX12_odds_74
          ·
            have r2169 : R (0) (39) i2157 := ⟨by omega, by omega⟩
            refine r_aload_n S dX12_odds_41 rfl (lv_at hl 0 rfl) ?_
            refine r_bipush S dX12_odds_42 (by decide) (fun v2170 z2171 => ?_)
            have r2172 := R_eq z2171
            refine r_iload_n S dX12_odds_44 rfl (lv_at hl 3 rfl) ?_
            refine r_iload S dX12_odds_45 (lv_at hl 5 rfl) ?_
            refine r_iadd S dX12_odds_47 (fun v2173 z2174 => ?_)
            have r2175 := R_any v2173
            refine r_ki (q_V (As := [.int v2170, .int v2173]) (rest := []) (K := 38) (ci := 10) S X2162 (c_X12_draws l G t2159 I2160 v2170 v2173 (R_of (lo := 1) (hi := 40) r2172 rfl) r2175 (by rw [z2164]; exact R_of p23 rfl)) ck12_376 (Nat.le_of_ble_eq_true rfl) rfl (fun _ => ⟨_, rfl⟩) ⟨_, _, rfl⟩ ⟨Nat.le_of_ble_eq_true rfl, Nat.le_of_ble_eq_true rfl⟩ rfl hl.1 rfl (Nat.le_of_ble_eq_true rfl) dX12_odds_48 ⟨Nat.le_refl 0, Nat.le_refl 0⟩) X2162 (fun v2179 t2178 H lc q2176 X2177 => ?_)
            unfold po_X12_draws at q2176
            obtain ⟨q2180, q2181⟩ := q2176
            have F2182 : Fr [(131, 0), (131, 36), (133, 125), (133, 126), (133, 127), (133, 128), (133, 129), (133, 130), (133, 131), (133, 132), (133, 133), (133, 134), (133, 135), (133, 136), (133, 137), (133, 138), (133, 139), (133, 140), (133, 141), (133, 142), (133, 143), (133, 144), (133, 145), (133, 146), (133, 147), (133, 148), (133, 149), (133, 150), (133, 151), (133, 152), (133, 153), (133, 154), (133, 155), (133, 156), (133, 157), (133, 158), (133, 159), (133, 160), (133, 161), (133, 162), (133, 163), (133, 164), (133, 165), (133, 166), (133, 167), (133, 168), (133, 169), (133, 170), (133, 171), (133, 172), (133, 173), (133, 174), (133, 175), (133, 176), (133, 177), (133, 178), (133, 179), (133, 180), (133, 181), (133, 182), (133, 183), (133, 184), (133, 185), (133, 186), (133, 187), (133, 188), (133, 189), (133, 190), (133, 191), (133, 192), (133, 193), (133, 194), (133, 195), (133, 196), (133, 197), (133, 198), (133, 199), (133, 200), (133, 201), (133, 202), (133, 203), (133, 204), (133, 205), (133, 206), (133, 207), (133, 208), (133, 209), (133, 210), (133, 211), (133, 212), (133, 213), (133, 214), (133, 215), (133, 216), (133, 217), (133, 218), (133, 219), (133, 220), (133, 221), (133, 222), (133, 223), (133, 224), (133, 225), (133, 226), (133, 227), (133, 228), (133, 229), (133, 230), (133, 231), (133, 232), (133, 233), (133, 234), (133, 235), (133, 236), (133, 237), (133, 238), (133, 239), (133, 240), (133, 241), (133, 242), (133, 243), (133, 244), (133, 245), (133, 246), (133, 247), (133, 248), (133, 249), (133, 250), (133, 251), (133, 252), (133, 253), (133, 254), (133, 255), (133, 256), (133, 257), (133, 258), (133, 259), (133, 260), (133, 261), (133, 262), (133, 263), (133, 264), (133, 265), (133, 266), (133, 267), (133, 268), (133, 269), (133, 270), (133, 271), (133, 272), (133, 273), (133, 274), (133, 275), (133, 276), (133, 277), (133, 278), (133, 279), (133, 280), (133, 281), (133, 282), (133, 283), (133, 284), (133, 285), (133, 286), (133, 287), (133, 288), (133, 289), (133, 290), (133, 291), (133, 292), (133, 293), (133, 294), (133, 295), (133, 296), (133, 297), (133, 298), (133, 299), (133, 300), (133, 301), (133, 302), (133, 303), (133, 304), (133, 305), (133, 306), (133, 307), (133, 308), (133, 309), (133, 310), (133, 311), (133, 312), (133, 313), (133, 314), (133, 315), (133, 316), (133, 317), (133, 318), (133, 319), (133, 320), (133, 321), (133, 322), (133, 323), (133, 324), (133, 325), (133, 326), (133, 327), (133, 328), (133, 329), (133, 330), (133, 331)] [139] τ t2178 := Fr_call F2161 q2181 (by decide)
            have r2183 := R_any v2179
            refine r_pop S dX12_odds_51 rfl ?_
            refine r_iload S dX12_odds_52 (lv_at hl 4 rfl) ?_
            refine r_aload_n S dX12_odds_54 rfl (lv_at hl 0 rfl) ?_
            refine r_iload_n S dX12_odds_55 rfl (lv_at hl 1 rfl) ?_
            refine r_ki (q_V (As := [.int a0]) (rest := [.int i2155]) (K := 38) (ci := 10) S X2177 (c_X12_bankOf l G t2178 q2180 a0 (R_of (lo := -2147483648) (hi := 2147483647) r24 rfl)) ck12_259 (Nat.le_of_ble_eq_true rfl) rfl (fun _ => ⟨_, rfl⟩) ⟨_, _, rfl⟩ ⟨Nat.le_of_ble_eq_true rfl, Nat.le_of_ble_eq_true rfl⟩ rfl hl.1 rfl (Nat.le_of_ble_eq_true rfl) dX12_odds_56 ⟨Nat.le_refl 0, Nat.le_refl 0⟩) X2177 (fun v2187 t2186 H lc q2184 X2185 => ?_)
            unfold po_X12_bankOf at q2184
            obtain ⟨q2188, q2189⟩ := q2184
            rw [q2188] at X2185
            refine r_iadd S dX12_odds_59 (fun v2190 z2191 => ?_)
            have r2192 := R_any v2190
            refine r_istore (lv' := [(4, .int v2190), (0, .ref (G.2.2.2.1 131)), (1, .int a0), (2, .int a1), (3, .int a2), (5, .int i2157)]) S dX12_odds_60 hl (by decide) rfl (fun ls hl => ?_)
            refine r_aload_n S dX12_odds_62 rfl (lv_at hl 1 rfl) ?_
            refine r_kv (q_V (As := []) (rest := []) (K := 38) (ci := 10) S X2185 (c_X12_back l G t2178 q2180 ) ck12_382 (Nat.le_of_ble_eq_true rfl) rfl (fun _ => ⟨_, rfl⟩) ⟨_, _, rfl⟩ ⟨Nat.le_of_ble_eq_true rfl, Nat.le_of_ble_eq_true rfl⟩ rfl hl.1 rfl (Nat.le_of_ble_eq_true rfl) dX12_odds_63 ⟨Nat.le_refl 0, Nat.le_refl 0⟩) X2185 (fun t2195 H lc q2193 X2194 => ?_)
            unfold po_X12_back at q2193
            obtain ⟨q2196, q2197⟩ := q2193
            have F2198 : Fr [(131, 0), (131, 36), (133, 125), (133, 126), (133, 127), (133, 128), (133, 129), (133, 130), (133, 131), (133, 132), (133, 133), (133, 134), (133, 135), (133, 136), (133, 137), (133, 138), (133, 139), (133, 140), (133, 141), (133, 142), (133, 143), (133, 144), (133, 145), (133, 146), (133, 147), (133, 148), (133, 149), (133, 150), (133, 151), (133, 152), (133, 153), (133, 154), (133, 155), (133, 156), (133, 157), (133, 158), (133, 159), (133, 160), (133, 161), (133, 162), (133, 163), (133, 164), (133, 165), (133, 166), (133, 167), (133, 168), (133, 169), (133, 170), (133, 171), (133, 172), (133, 173), (133, 174), (133, 175), (133, 176), (133, 177), (133, 178), (133, 179), (133, 180), (133, 181), (133, 182), (133, 183), (133, 184), (133, 185), (133, 186), (133, 187), (133, 188), (133, 189), (133, 190), (133, 191), (133, 192), (133, 193), (133, 194), (133, 195), (133, 196), (133, 197), (133, 198), (133, 199), (133, 200), (133, 201), (133, 202), (133, 203), (133, 204), (133, 205), (133, 206), (133, 207), (133, 208), (133, 209), (133, 210), (133, 211), (133, 212), (133, 213), (133, 214), (133, 215), (133, 216), (133, 217), (133, 218), (133, 219), (133, 220), (133, 221), (133, 222), (133, 223), (133, 224), (133, 225), (133, 226), (133, 227), (133, 228), (133, 229), (133, 230), (133, 231), (133, 232), (133, 233), (133, 234), (133, 235), (133, 236), (133, 237), (133, 238), (133, 239), (133, 240), (133, 241), (133, 242), (133, 243), (133, 244), (133, 245), (133, 246), (133, 247), (133, 248), (133, 249), (133, 250), (133, 251), (133, 252), (133, 253), (133, 254), (133, 255), (133, 256), (133, 257), (133, 258), (133, 259), (133, 260), (133, 261), (133, 262), (133, 263), (133, 264), (133, 265), (133, 266), (133, 267), (133, 268), (133, 269), (133, 270), (133, 271), (133, 272), (133, 273), (133, 274), (133, 275), (133, 276), (133, 277), (133, 278), (133, 279), (133, 280), (133, 281), (133, 282), (133, 283), (133, 284), (133, 285), (133, 286), (133, 287), (133, 288), (133, 289), (133, 290), (133, 291), (133, 292), (133, 293), (133, 294), (133, 295), (133, 296), (133, 297), (133, 298), (133, 299), (133, 300), (133, 301), (133, 302), (133, 303), (133, 304), (133, 305), (133, 306), (133, 307), (133, 308), (133, 309), (133, 310), (133, 311), (133, 312), (133, 313), (133, 314), (133, 315), (133, 316), (133, 317), (133, 318), (133, 319), (133, 320), (133, 321), (133, 322), (133, 323), (133, 324), (133, 325), (133, 326), (133, 327), (133, 328), (133, 329), (133, 330), (133, 331)] [139] τ t2195 := Fr_call F2182 q2197 (by decide)
            refine r_iinc (k := 5) S dX12_odds_66 hl rfl (by decide) (by decide) (fun v2199 d2200 ls z2201 z2202 hl => ?_)
            obtain ⟨e2203, r2204⟩ := i_add (lo := 1) (hi := 40) z2201 r2169 (R_eq z2202) rfl
            have hl : lv_has ls 6 [(5, .int v2199), (4, .int v2190), (0, .ref (G.2.2.2.1 131)), (1, .int a0), (2, .int a1), (3, .int a2)] := hl
            refine r_goto (tgt := 35) S dX12_odds_69 (by decide) ?_
            exact ih2166 t2195 _ _ _ v2190 v2199 X2194 q2196 F2198 r2192 (R_of r2204 rfl) ((q2197 131 0 (by decide)).trans ((q2181 131 0 (by decide)).trans z2163)) ((q2197 133 1 (by decide)).trans ((q2181 133 1 (by decide)).trans z2164)) (lv_sub hl [2, 3, 4, 5, 1, 0] rfl) (by omega)
      exact L2165 _ t47 _ _ _ v51 v54 X46 q48 F50 (R_of r53 rfl) (R_of r56 rfl) ((q49 131 0 (by decide)).trans M5.1) ((q49 133 1 (by decide)).trans z26) (lv_sub hl [2, 3, 4, 5, 1, 0] rfl) (Nat.lt_succ_self _)
    ·
      have r2205 : R (0) (0) v36 := ⟨by omega, by omega⟩
      refine r_iconst S dX12_odds_23 (by decide) (fun v2206 z2207 => ?_)
      have r2208 := R_eq z2207
      exact r_ret S hr hlk X34 ⟨I7, F8⟩ rfl dX12_odds_24
def po_X12_ferry (τ : Tau)     (r : Int32) (u : Tau) : Prop := Inv u ∧ Fr [(131, 0), (131, 15), (131, 16), (131, 4), (131, 11), (131, 12), (131, 13), (131, 14), (131, 2), (131, 3), (131, 5), (131, 18), (131, 19), (131, 20), (131, 21), (131, 24)] [134, 133, 331, 336] τ u ∧ R (0) (0) (u 131 2)
set_option maxHeartbeats 4000000 in
set_option maxRecDepth 100000 in
theorem c_X12_ferry (l : Launch) (G : Gx) (τ : Tau) (hI : Inv τ) : Ci l G yX12_ferry cX12_ferry 2 (some .int) 6 131 [.ref (G.2.2.2.1 131)] τ (po_X12_ferry τ    ) := by
  unfold Ci
  refine C_of (own := RX12) (by decide) rfl (Nat.le_of_ble_eq_true rfl) ?_
  intro p e s m below meth c ls S hr hlk X hl
  have hl : lv_has ls 2 [(0, .ref (G.2.2.2.1 131))] := hl
  refine r_aload_n S dX12_ferry_0 rfl (lv_at hl 0 rfl) ?_
  refine r_iconst S dX12_ferry_1 (by decide) (fun v1 z2 => ?_)
  have r3 := R_eq z2
  refine r_put (K := 38) (ty := .int) S X (Nat.le_of_ble_eq_true rfl) rfl lk12_1_10 (fun _ => ⟨_, rfl, Nat.le_of_ble_eq_true rfl, rfl⟩) (fun _ _ _ h => by cases h; exact ⟨rfl, rfl⟩) rfl rfl dX12_ferry_2 (fun t4 H lc M5 X6 => ?_)
  have I7 := Inv_mu hI M5 (R_any v1)
  have F8 : Fr [(131, 0), (131, 15), (131, 16), (131, 4), (131, 11), (131, 12), (131, 13), (131, 14), (131, 2), (131, 3), (131, 5), (131, 18), (131, 19), (131, 20), (131, 21), (131, 24)] [134, 133, 331, 336] τ t4 := Fr_mu Fr_rfl M5 (by decide)
  refine r_aload_n S dX12_ferry_5 rfl (lv_at hl 0 rfl) ?_
  refine r_sipush S dX12_ferry_6 (by decide) (fun v9 z10 => ?_)
  have r11 := R_eq z10
  refine r_kv (q_V (As := [.int v9]) (rest := []) (K := 38) (ci := 10) S X6 (c_X12_taken l G t4 I7 v9 (R_of (lo := 0) (hi := 940) r11 rfl)) ck12_237 (Nat.le_of_ble_eq_true rfl) rfl (fun _ => ⟨_, rfl⟩) ⟨_, _, rfl⟩ ⟨Nat.le_of_ble_eq_true rfl, Nat.le_of_ble_eq_true rfl⟩ rfl hl.1 rfl (Nat.le_of_ble_eq_true rfl) dX12_ferry_9 ⟨Nat.le_refl 0, Nat.le_refl 0⟩) X6 (fun t14 H lc q12 X13 => ?_)
  unfold po_X12_taken at q12
  obtain ⟨q15, q16, q17⟩ := q12
  have F18 : Fr [(131, 0), (131, 15), (131, 16), (131, 4), (131, 11), (131, 12), (131, 13), (131, 14), (131, 2), (131, 3), (131, 5), (131, 18), (131, 19), (131, 20), (131, 21), (131, 24)] [134, 133, 331, 336] τ t14 := Fr_call F8 q16 (by decide)
  obtain ⟨v19, z20⟩ : ∃ x, t14 131 2 = x := ⟨_, rfl⟩
  rw [z20] at q17
  refine r_aload_n S dX12_ferry_12 rfl (lv_at hl 0 rfl) ?_
  refine r_iconst S dX12_ferry_13 (by decide) (fun v21 z22 => ?_)
  have r23 := R_eq z22
  refine r_put (K := 38) (ty := .int) S X13 (Nat.le_of_ble_eq_true rfl) rfl lk12_174_10 (fun _ => ⟨_, rfl, Nat.le_of_ble_eq_true rfl, rfl⟩) (fun _ _ _ h => by cases h; exact ⟨rfl, rfl⟩) rfl rfl dX12_ferry_14 (fun t24 H lc M25 X26 => ?_)
  have I27 := Inv_mu q15 M25 (R_any v21)
  have F28 : Fr [(131, 0), (131, 15), (131, 16), (131, 4), (131, 11), (131, 12), (131, 13), (131, 14), (131, 2), (131, 3), (131, 5), (131, 18), (131, 19), (131, 20), (131, 21), (131, 24)] [134, 133, 331, 336] τ t24 := Fr_mu F18 M25 (by decide)
  refine r_aload_n S dX12_ferry_17 rfl (lv_at hl 0 rfl) ?_
  refine r_iconst S dX12_ferry_18 (by decide) (fun v29 z30 => ?_)
  have r31 := R_eq z30
  refine r_put (K := 38) (ty := .int) S X26 (Nat.le_of_ble_eq_true rfl) rfl lk12_240_10 (fun _ => ⟨_, rfl, Nat.le_of_ble_eq_true rfl, rfl⟩) (fun _ _ _ h => by cases h; exact ⟨rfl, rfl⟩) rfl rfl dX12_ferry_19 (fun t32 H lc M33 X34 => ?_)
  have I35 := Inv_mu I27 M33 (R_any v29)
  have F36 : Fr [(131, 0), (131, 15), (131, 16), (131, 4), (131, 11), (131, 12), (131, 13), (131, 14), (131, 2), (131, 3), (131, 5), (131, 18), (131, 19), (131, 20), (131, 21), (131, 24)] [134, 133, 331, 336] τ t32 := Fr_mu F28 M33 (by decide)
  refine r_aload_n S dX12_ferry_22 rfl (lv_at hl 0 rfl) ?_
  refine r_iconst S dX12_ferry_23 (by decide) (fun v37 z38 => ?_)
  have r39 := R_eq z38
  refine r_put (K := 38) (ty := .int) S X34 (Nat.le_of_ble_eq_true rfl) rfl lk12_218_10 (fun _ => ⟨_, rfl, Nat.le_of_ble_eq_true rfl, rfl⟩) (fun _ _ _ h => by cases h; exact ⟨rfl, rfl⟩) rfl rfl dX12_ferry_24 (fun t40 H lc M41 X42 => ?_)
  have I43 := Inv_mu I35 M41 (R_any v37)
  have F44 : Fr [(131, 0), (131, 15), (131, 16), (131, 4), (131, 11), (131, 12), (131, 13), (131, 14), (131, 2), (131, 3), (131, 5), (131, 18), (131, 19), (131, 20), (131, 21), (131, 24)] [134, 133, 331, 336] τ t40 := Fr_mu F36 M41 (by decide)
  refine r_iconst S dX12_ferry_27 (by decide) (fun v45 z46 => ?_)
  have r47 := R_eq z46
  refine r_istore_n (lv' := [(1, .int v45), (0, .ref (G.2.2.2.1 131))]) S dX12_ferry_28 rfl hl (by decide) rfl (fun ls hl => ?_)
  have L633 : ∀ (n : Nat) (t624 : Tau) (H : Heap) (lc : List Loc) (ls : Array Slot) (i622 : Int32), Xd G s H lc t624 → Inv t624 → Fr [(131, 0), (131, 15), (131, 16), (131, 4), (131, 11), (131, 12), (131, 13), (131, 14), (131, 2), (131, 3), (131, 5), (131, 18), (131, 19), (131, 20), (131, 21), (131, 24)] [134, 133, 331, 336] τ t624 → R (0) (125) i622 → t624 131 0 = v1 → t624 131 2 = v19 → t624 131 15 = v21 → t624 131 19 = v29 → t624 131 20 = v37 → lv_has ls 2 [(0, .ref (G.2.2.2.1 131)), (1, .int i622)] → (125 - i622.toInt).toNat < n → W p l e (Rm 6 131) s m ([.ref (G.2.2.2.1 131)] : List Value).toArray below meth c H lc 0 0 (MQ below (va_Qi (po_X12_ferry τ    ) (Bs G) G.2.2.2.2) ([.ref (G.2.2.2.1 131)] : List Value).toArray s 0 0 G.2.2.2.2) (F0 m 29 ls []) := by
    intro n
    induction n with
    | zero => intros; omega
    | succ n ih634 =>
      intro t624 H lc ls i622 X627 I625 F626 r623 z628 z629 z630 z631 z632 hl hm
      refine r_iload_n S dX12_ferry_29 rfl (lv_at hl 1 rfl) ?_
      refine r_bipush S dX12_ferry_30 (by decide) (fun v635 z636 => ?_)
      have r637 := R_eq z636
      refine r_icmp_ge (tgt := 48) S dX12_ferry_32 (by decide) (fun c638 => ?_) (fun c638 => ?_)
      ·
        have r639 : R (125) (125) i622 := ⟨by omega, by omega⟩
        refine r_aload_n S dX12_ferry_48 rfl (lv_at hl 0 rfl) ?_
        refine r_get (K := 38) (v := .ref (G.2.2.2.1 134)) S X627 (Nat.le_of_ble_eq_true rfl) rfl lk12_37_10 (fun _ => ⟨_, rfl, rfl⟩) dX12_ferry_49 ?_
        refine r_iconst S dX12_ferry_52 (by decide) (fun v640 z641 => ?_)
        have r642 := R_eq z641
        refine r_iconst S dX12_ferry_53 (by decide) (fun v643 z644 => ?_)
        have r645 := R_eq z644
        refine r_ast (n := 125) (K := 41) S X627 (Nat.le_of_ble_eq_true rfl) rfl (fun _ _ => rfl) (ix_of r642 rfl) dX12_ferry_54 (fun t646 H lc M647 X648 => ?_)
        have I649 := Inv_mu I625 M647 (show Rg (kd 134) _ v643 from wrs (K := 41) (a := 2) (n := 1) (R_of r642 rfl) (R_of (lo := 0) (hi := 8) r645 rfl) (by decide +kernel))
        have F650 : Fr [(131, 0), (131, 15), (131, 16), (131, 4), (131, 11), (131, 12), (131, 13), (131, 14), (131, 2), (131, 3), (131, 5), (131, 18), (131, 19), (131, 20), (131, 21), (131, 24)] [134, 133, 331, 336] τ t646 := Fr_cell F626 M647 (by decide)
        refine r_aload_n S dX12_ferry_55 rfl (lv_at hl 0 rfl) ?_
        refine r_kv (q_V (As := []) (rest := []) (K := 38) (ci := 10) S X648 (c_X12_skip l G t646 I649 ) ck12_186 (Nat.le_of_ble_eq_true rfl) rfl (fun _ => ⟨_, rfl⟩) ⟨_, _, rfl⟩ ⟨Nat.le_of_ble_eq_true rfl, Nat.le_of_ble_eq_true rfl⟩ rfl hl.1 rfl (Nat.le_of_ble_eq_true rfl) dX12_ferry_56 ⟨Nat.le_refl 0, Nat.le_refl 0⟩) X648 (fun t653 H lc q651 X652 => ?_)
        unfold po_X12_skip at q651
        obtain ⟨q654, q655, q656, q657, q658, q659⟩ := q651
        have F660 : Fr [(131, 0), (131, 15), (131, 16), (131, 4), (131, 11), (131, 12), (131, 13), (131, 14), (131, 2), (131, 3), (131, 5), (131, 18), (131, 19), (131, 20), (131, 21), (131, 24)] [134, 133, 331, 336] τ t653 := Fr_call F650 q655 (by decide)
        obtain ⟨v661, z662⟩ : ∃ x, t653 131 4 = x := ⟨_, rfl⟩
        rw [z662] at q656
        obtain ⟨v663, z664⟩ : ∃ x, t653 131 11 = x := ⟨_, rfl⟩
        rw [z664] at q657
        have e665 := congrArg Int32.toInt z662
        have e666 := congrArg Int32.toInt z662
        have e667 := congrArg Int32.toInt z664
        have L3932 : ∀ (n : Nat) (t3917 : Tau) (H : Heap) (lc : List Loc) (ls : Array Slot) (f3923 : Int32) (f3926 : Int32) (f3929 : Int32), Xd G s H lc t3917 → Inv t3917 → Fr [(131, 0), (131, 15), (131, 16), (131, 4), (131, 11), (131, 12), (131, 13), (131, 14), (131, 2), (131, 3), (131, 5), (131, 18), (131, 19), (131, 20), (131, 21), (131, 24)] [134, 133, 331, 336] τ t3917 → t3917 131 0 = v1 → t3917 131 2 = v19 → t3917 131 19 = f3923 → R (-2147483648) (2147483647) f3923 → t3917 131 4 = f3926 → R (0) (940) f3926 → t3917 131 11 = f3929 → R (0) (4) f3929 → lv_has ls 2 [(0, .ref (G.2.2.2.1 131))] → (940 - f3926.toInt).toNat < n → W p l e (Rm 6 131) s m ([.ref (G.2.2.2.1 131)] : List Value).toArray below meth c H lc 0 0 (MQ below (va_Qi (po_X12_ferry τ    ) (Bs G) G.2.2.2.2) ([.ref (G.2.2.2.1 131)] : List Value).toArray s 0 0 G.2.2.2.2) (F0 m 59 ls []) := by
          intro n
          induction n with
          | zero => intros; omega
          | succ n ih3933 =>
            intro t3917 H lc ls f3923 f3926 f3929 X3920 I3918 F3919 z3921 z3922 z3925 r3924 z3928 r3927 z3931 r3930 hl hm
            refine r_aload_n S dX12_ferry_59 rfl (lv_at hl 0 rfl) ?_
            refine r_geti (K := 38) S X3920 (Nat.le_of_ble_eq_true rfl) rfl lk12_157_10 (fun _ => ⟨_, rfl, rfl⟩) z3931 dX12_ferry_60 ?_
            refine r_if_eq (tgt := 102) S dX12_ferry_63 (by decide) (fun c3934 => ?_) (fun c3934 => ?_)
            ·
              have r3935 : R (0) (0) f3929 := ⟨by omega, by omega⟩
              refine r_iconst S dX12_ferry_102 (by decide) (fun v3936 z3937 => ?_)
              have r3938 := R_eq z3937
              refine r_istore_n (lv' := [(1, .int v3936), (0, .ref (G.2.2.2.1 131))]) S dX12_ferry_103 rfl hl (by decide) rfl (fun ls hl => ?_)
              have L5113 : ∀ (n : Nat) (t5104 : Tau) (H : Heap) (lc : List Loc) (ls : Array Slot) (i5102 : Int32), Xd G s H lc t5104 → Inv t5104 → Fr [(131, 0), (131, 15), (131, 16), (131, 4), (131, 11), (131, 12), (131, 13), (131, 14), (131, 2), (131, 3), (131, 5), (131, 18), (131, 19), (131, 20), (131, 21), (131, 24)] [134, 133, 331, 336] τ t5104 → R (0) (513) i5102 → t5104 131 0 = v1 → t5104 131 2 = v19 → t5104 131 19 = f3923 → t5104 131 4 = f3926 → t5104 131 11 = f3929 → lv_has ls 2 [(0, .ref (G.2.2.2.1 131)), (1, .int i5102)] → (513 - i5102.toInt).toNat < n → W p l e (Rm 6 131) s m ([.ref (G.2.2.2.1 131)] : List Value).toArray below meth c H lc 0 0 (MQ below (va_Qi (po_X12_ferry τ    ) (Bs G) G.2.2.2.2) ([.ref (G.2.2.2.1 131)] : List Value).toArray s 0 0 G.2.2.2.2) (F0 m 104 ls []) := by
                intro n
                induction n with
                | zero => intros; omega
                | succ n ih5114 =>
                  intro t5104 H lc ls i5102 X5107 I5105 F5106 r5103 z5108 z5109 z5110 z5111 z5112 hl hm
                  refine r_iload_n S dX12_ferry_104 rfl (lv_at hl 1 rfl) ?_
                  refine r_sipush S dX12_ferry_105 (by decide) (fun v5115 z5116 => ?_)
                  have r5117 := R_eq z5116
                  refine r_icmp_ge (tgt := 139) S dX12_ferry_108 (by decide) (fun c5118 => ?_) (fun c5118 => ?_)
                  ·
                    have r5119 : R (513) (513) i5102 := ⟨by omega, by omega⟩
                    refine r_iconst S dX12_ferry_139 (by decide) (fun v5120 z5121 => ?_)
                    have r5122 := R_eq z5121
                    refine r_istore_n (lv' := [(1, .int v5120), (0, .ref (G.2.2.2.1 131))]) S dX12_ferry_140 rfl hl (by decide) rfl (fun ls hl => ?_)
                    have L5443 : ∀ (n : Nat) (t5434 : Tau) (H : Heap) (lc : List Loc) (ls : Array Slot) (i5432 : Int32), Xd G s H lc t5434 → Inv t5434 → Fr [(131, 0), (131, 15), (131, 16), (131, 4), (131, 11), (131, 12), (131, 13), (131, 14), (131, 2), (131, 3), (131, 5), (131, 18), (131, 19), (131, 20), (131, 21), (131, 24)] [134, 133, 331, 336] τ t5434 → R (0) (19) i5432 → t5434 131 0 = v1 → t5434 131 2 = v19 → t5434 131 19 = f3923 → t5434 131 4 = f3926 → t5434 131 11 = f3929 → lv_has ls 2 [(0, .ref (G.2.2.2.1 131)), (1, .int i5432)] → (19 - i5432.toInt).toNat < n → W p l e (Rm 6 131) s m ([.ref (G.2.2.2.1 131)] : List Value).toArray below meth c H lc 0 0 (MQ below (va_Qi (po_X12_ferry τ    ) (Bs G) G.2.2.2.2) ([.ref (G.2.2.2.1 131)] : List Value).toArray s 0 0 G.2.2.2.2) (F0 m 141 ls []) := by
                      intro n
                      induction n with
                      | zero => intros; omega
                      | succ n ih5444 =>
                        intro t5434 H lc ls i5432 X5437 I5435 F5436 r5433 z5438 z5439 z5440 z5441 z5442 hl hm
                        refine r_iload_n S dX12_ferry_141 rfl (lv_at hl 1 rfl) ?_
                        refine r_bipush S dX12_ferry_142 (by decide) (fun v5445 z5446 => ?_)
                        have r5447 := R_eq z5446
                        refine r_icmp_ge (tgt := 168) S dX12_ferry_144 (by decide) (fun c5448 => ?_) (fun c5448 => ?_)
                        ·
                          have r5449 : R (19) (19) i5432 := ⟨by omega, by omega⟩
                          refine r_iconst S dX12_ferry_168 (by decide) (fun v5450 z5451 => ?_)
                          have r5452 := R_eq z5451
                          refine r_istore_n (lv' := [(1, .int v5450), (0, .ref (G.2.2.2.1 131))]) S dX12_ferry_169 rfl hl (by decide) rfl (fun ls hl => ?_)
                          have L6204 : ∀ (n : Nat) (t6195 : Tau) (H : Heap) (lc : List Loc) (ls : Array Slot) (i6193 : Int32), Xd G s H lc t6195 → Inv t6195 → Fr [(131, 0), (131, 15), (131, 16), (131, 4), (131, 11), (131, 12), (131, 13), (131, 14), (131, 2), (131, 3), (131, 5), (131, 18), (131, 19), (131, 20), (131, 21), (131, 24)] [134, 133, 331, 336] τ t6195 → R (0) (90) i6193 → t6195 131 0 = v1 → t6195 131 2 = v19 → t6195 131 19 = f3923 → t6195 131 4 = f3926 → t6195 131 11 = f3929 → lv_has ls 2 [(0, .ref (G.2.2.2.1 131)), (1, .int i6193)] → (90 - i6193.toInt).toNat < n → W p l e (Rm 6 131) s m ([.ref (G.2.2.2.1 131)] : List Value).toArray below meth c H lc 0 0 (MQ below (va_Qi (po_X12_ferry τ    ) (Bs G) G.2.2.2.2) ([.ref (G.2.2.2.1 131)] : List Value).toArray s 0 0 G.2.2.2.2) (F0 m 170 ls []) := by
                            intro n
                            induction n with
                            | zero => intros; omega
                            | succ n ih6205 =>
                              intro t6195 H lc ls i6193 X6198 I6196 F6197 r6194 z6199 z6200 z6201 z6202 z6203 hl hm
                              refine r_iload_n S dX12_ferry_170 rfl (lv_at hl 1 rfl) ?_
                              refine r_bipush S dX12_ferry_171 (by decide) (fun v6206 z6207 => ?_)
                              have r6208 := R_eq z6207
                              refine r_icmp_ge (tgt := 201) S dX12_ferry_173 (by decide) (fun c6209 => ?_) (fun c6209 => ?_)
                              ·
                                have r6210 : R (90) (90) i6193 := ⟨by omega, by omega⟩
                                refine r_aload_n S dX12_ferry_201 rfl (lv_at hl 0 rfl) ?_
                                refine r_iconst S dX12_ferry_202 (by decide) (fun v6211 z6212 => ?_)
                                have r6213 := R_eq z6212
                                refine r_put (K := 38) (ty := .int) S X6198 (Nat.le_of_ble_eq_true rfl) rfl lk12_249_10 (fun _ => ⟨_, rfl, Nat.le_of_ble_eq_true rfl, rfl⟩) (fun _ _ _ h => by cases h; exact ⟨rfl, rfl⟩) rfl rfl dX12_ferry_203 (fun t6214 H lc M6215 X6216 => ?_)
                                have I6217 := Inv_mu I6196 M6215 (show Rg (kd 131) 24 v6211 from (R_of (lo := 0) (hi := 8) r6213 rfl))
                                have F6218 : Fr [(131, 0), (131, 15), (131, 16), (131, 4), (131, 11), (131, 12), (131, 13), (131, 14), (131, 2), (131, 3), (131, 5), (131, 18), (131, 19), (131, 20), (131, 21), (131, 24)] [134, 133, 331, 336] τ t6214 := Fr_mu F6197 M6215 (by decide)
                                refine r_aload_n S dX12_ferry_206 rfl (lv_at hl 0 rfl) ?_
                                refine r_geti (K := 38) S X6216 (Nat.le_of_ble_eq_true rfl) rfl lk12_240_10 (fun _ => ⟨_, rfl, rfl⟩) ((M6215.2 131 19 (Or.inr (by decide))).trans z6201) dX12_ferry_207 ?_
                                exact r_ret S hr hlk X6216 ⟨I6217, F6218, (by rw [((M6215.2 131 2 (Or.inr (by decide))).trans z6200)]; exact R_of q17 rfl)⟩ rfl dX12_ferry_210
                              ·
                                have r6219 : R (0) (89) i6193 := ⟨by omega, by omega⟩
                                refine r_aload_n S dX12_ferry_176 rfl (lv_at hl 0 rfl) ?_
                                refine r_get (K := 38) (v := .ref (G.2.2.2.1 133)) S X6198 (Nat.le_of_ble_eq_true rfl) rfl lk12_33_10 (fun _ => ⟨_, rfl, rfl⟩) dX12_ferry_177 ?_
                                refine r_sipush S dX12_ferry_180 (by decide) (fun v6220 z6221 => ?_)
                                have r6222 := R_eq z6221
                                refine r_iload_n S dX12_ferry_183 rfl (lv_at hl 1 rfl) ?_
                                refine r_iadd S dX12_ferry_184 (fun v6223 z6224 => ?_)
                                obtain ⟨e6225, r6226⟩ := i_add (lo := 142) (hi := 231) z6224 r6222 r6219 rfl
                                refine r_aload_n S dX12_ferry_185 rfl (lv_at hl 0 rfl) ?_
                                refine r_get (K := 38) (v := .ref (G.2.2.2.1 133)) S X6198 (Nat.le_of_ble_eq_true rfl) rfl lk12_33_10 (fun _ => ⟨_, rfl, rfl⟩) dX12_ferry_186 ?_
                                refine r_bipush S dX12_ferry_189 (by decide) (fun v6227 z6228 => ?_)
                                have r6229 := R_eq z6228
                                refine r_iload_n S dX12_ferry_191 rfl (lv_at hl 1 rfl) ?_
                                refine r_iadd S dX12_ferry_192 (fun v6230 z6231 => ?_)
                                obtain ⟨e6232, r6233⟩ := i_add (lo := 15) (hi := 104) z6231 r6229 r6219 rfl
                                refine r_aldn (n := 513) (K := 40) S X6198 (Nat.le_of_ble_eq_true rfl) rfl (fun _ => rfl) (ix_of r6233 rfl) dX12_ferry_193 (fun v6234 z6235 => ?_)
                                have r6236 : R (-9) (9) v6234 := rds (K := 40) (a := 15) (n := 90) I6196 rfl z6235 (R_of r6233 rfl) (by decide +kernel)
                                have g6237 : Rg 40 v6230.toNatClampNeg v6234 := rd I6196 rfl z6235
                                refine r_ast (n := 513) (K := 40) S X6198 (Nat.le_of_ble_eq_true rfl) rfl (fun _ _ => rfl) (ix_of r6226 rfl) dX12_ferry_194 (fun t6238 H lc M6239 X6240 => ?_)
                                have I6241 := Inv_mu I6196 M6239 (show Rg (kd 133) _ v6234 from wrs (K := 40) (a := 142) (n := 90) (R_of r6226 rfl) (R_of (lo := -9) (hi := 9) r6236 rfl) (by decide +kernel))
                                have F6242 : Fr [(131, 0), (131, 15), (131, 16), (131, 4), (131, 11), (131, 12), (131, 13), (131, 14), (131, 2), (131, 3), (131, 5), (131, 18), (131, 19), (131, 20), (131, 21), (131, 24)] [134, 133, 331, 336] τ t6238 := Fr_cell F6197 M6239 (by decide)
                                refine r_iinc (k := 1) S dX12_ferry_195 hl rfl (by decide) (by decide) (fun v6243 d6244 ls z6245 z6246 hl => ?_)
                                obtain ⟨e6247, r6248⟩ := i_add (lo := 1) (hi := 90) z6245 r6219 (R_eq z6246) rfl
                                have hl : lv_has ls 2 [(1, .int v6243), (0, .ref (G.2.2.2.1 131))] := hl
                                refine r_goto (tgt := 170) S dX12_ferry_198 (by decide) ?_
                                exact ih6205 t6238 _ _ _ v6243 X6240 I6241 F6242 (R_of r6248 rfl) ((M6239.2 131 0 (Or.inl (by decide))).trans z6199) ((M6239.2 131 2 (Or.inl (by decide))).trans z6200) ((M6239.2 131 19 (Or.inl (by decide))).trans z6201) ((M6239.2 131 4 (Or.inl (by decide))).trans z6202) ((M6239.2 131 11 (Or.inl (by decide))).trans z6203) (lv_sub hl [1, 0] rfl) (by omega)
                          exact L6204 _ t5434 _ _ _ v5450 X5437 I5435 F5436 (R_of r5452 rfl) z5438 z5439 z5440 z5441 z5442 (lv_sub hl [1, 0] rfl) (Nat.lt_succ_self _)
                        ·
                          have r6249 : R (0) (18) i5432 := ⟨by omega, by omega⟩
                          refine r_aload_n S dX12_ferry_147 rfl (lv_at hl 0 rfl) ?_
                          refine r_get (K := 38) (v := .ref (G.2.2.2.1 136)) S X5437 (Nat.le_of_ble_eq_true rfl) rfl lk12_43_10 (fun _ => ⟨_, rfl, rfl⟩) dX12_ferry_148 ?_
                          refine r_iload_n S dX12_ferry_151 rfl (lv_at hl 1 rfl) ?_
                          refine r_aload_n S dX12_ferry_152 rfl (lv_at hl 0 rfl) ?_
                          refine r_get (K := 38) (v := .ref (G.2.2.2.1 136)) S X5437 (Nat.le_of_ble_eq_true rfl) rfl lk12_43_10 (fun _ => ⟨_, rfl, rfl⟩) dX12_ferry_153 ?_
                          refine r_bipush S dX12_ferry_156 (by decide) (fun v6250 z6251 => ?_)
                          have r6252 := R_eq z6251
                          refine r_iload_n S dX12_ferry_158 rfl (lv_at hl 1 rfl) ?_
                          refine r_iadd S dX12_ferry_159 (fun v6253 z6254 => ?_)
                          obtain ⟨e6255, r6256⟩ := i_add (lo := 19) (hi := 37) z6254 r6252 r6249 rfl
                          refine r_lald (n := 38) (K := 43) S X5437 (Nat.le_of_ble_eq_true rfl) rfl (fun _ => rfl) (ix_of r6256 rfl) dX12_ferry_160 (fun j6257 z6258 => ?_)
                          refine r_last (n := 38) (K := 43) S X5437 (Nat.le_of_ble_eq_true rfl) rfl (fun _ => rfl) (ix_of r6249 rfl) dX12_ferry_161 (fun t6260 H lc M6261 X6259 => ?_)
                          have I6262 := Inv_ml I5435 M6261
                          have F6263 : Fr [(131, 0), (131, 15), (131, 16), (131, 4), (131, 11), (131, 12), (131, 13), (131, 14), (131, 2), (131, 3), (131, 5), (131, 18), (131, 19), (131, 20), (131, 21), (131, 24)] [134, 133, 331, 336] τ t6260 := Fr_ml F5436 M6261 (by decide)
                          refine r_iinc (k := 1) S dX12_ferry_162 hl rfl (by decide) (by decide) (fun v6264 d6265 ls z6266 z6267 hl => ?_)
                          obtain ⟨e6268, r6269⟩ := i_add (lo := 1) (hi := 19) z6266 r6249 (R_eq z6267) rfl
                          have hl : lv_has ls 2 [(1, .int v6264), (0, .ref (G.2.2.2.1 131))] := hl
                          refine r_goto (tgt := 141) S dX12_ferry_165 (by decide) ?_
                          exact ih5444 t6260 _ _ _ v6264 X6259 I6262 F6263 (R_of r6269 rfl) ((M6261.1 131 (by decide) 0).trans z5438) ((M6261.1 131 (by decide) 2).trans z5439) ((M6261.1 131 (by decide) 19).trans z5440) ((M6261.1 131 (by decide) 4).trans z5441) ((M6261.1 131 (by decide) 11).trans z5442) (lv_sub hl [1, 0] rfl) (by omega)
                    exact L5443 _ t5104 _ _ _ v5120 X5107 I5105 F5106 (R_of r5122 rfl) z5108 z5109 z5110 z5111 z5112 (lv_sub hl [1, 0] rfl) (Nat.lt_succ_self _)
                  ·
                    have r6270 : R (0) (512) i5102 := ⟨by omega, by omega⟩
                    refine r_aload_n S dX12_ferry_111 rfl (lv_at hl 0 rfl) ?_
                    refine r_get (K := 38) (v := .ref (G.2.2.2.1 133)) S X5107 (Nat.le_of_ble_eq_true rfl) rfl lk12_33_10 (fun _ => ⟨_, rfl, rfl⟩) dX12_ferry_112 ?_
                    refine r_iload_n S dX12_ferry_115 rfl (lv_at hl 1 rfl) ?_
                    refine r_iload_n S dX12_ferry_116 rfl (lv_at hl 1 rfl) ?_
                    refine r_bipush S dX12_ferry_117 (by decide) (fun v6271 z6272 => ?_)
                    have r6273 := R_eq z6272
                    refine r_icmp_ge (tgt := 131) S dX12_ferry_119 (by decide) (fun c6274 => ?_) (fun c6274 => ?_)
                    ·
                      have r6275 : R (125) (512) i5102 := ⟨by omega, by omega⟩
                      refine r_iconst S dX12_ferry_131 (by decide) (fun v6276 z6277 => ?_)
                      have r6278 := R_eq z6277
                      refine r_ast (n := 513) (K := 40) S X5107 (Nat.le_of_ble_eq_true rfl) rfl (fun _ _ => rfl) (ix_of r6275 rfl) dX12_ferry_132 (fun t6279 H lc M6280 X6281 => ?_)
                      have I6282 := Inv_mu I5105 M6280 (show Rg (kd 133) _ v6276 from wrs (K := 40) (a := 125) (n := 388) (R_of r6275 rfl) (R_of (lo := 0) (hi := 1) r6278 rfl) (by decide +kernel))
                      have F6283 : Fr [(131, 0), (131, 15), (131, 16), (131, 4), (131, 11), (131, 12), (131, 13), (131, 14), (131, 2), (131, 3), (131, 5), (131, 18), (131, 19), (131, 20), (131, 21), (131, 24)] [134, 133, 331, 336] τ t6279 := Fr_cell F5106 M6280 (by decide)
                      refine r_iinc (k := 1) S dX12_ferry_133 hl rfl (by decide) (by decide) (fun v6284 d6285 ls z6286 z6287 hl => ?_)
                      obtain ⟨e6288, r6289⟩ := i_add (lo := 126) (hi := 513) z6286 r6275 (R_eq z6287) rfl
                      have hl : lv_has ls 2 [(1, .int v6284), (0, .ref (G.2.2.2.1 131))] := hl
                      refine r_goto (tgt := 104) S dX12_ferry_136 (by decide) ?_
                      exact ih5114 t6279 _ _ _ v6284 X6281 I6282 F6283 (R_of r6289 rfl) ((M6280.2 131 0 (Or.inl (by decide))).trans z5108) ((M6280.2 131 2 (Or.inl (by decide))).trans z5109) ((M6280.2 131 19 (Or.inl (by decide))).trans z5110) ((M6280.2 131 4 (Or.inl (by decide))).trans z5111) ((M6280.2 131 11 (Or.inl (by decide))).trans z5112) (lv_sub hl [1, 0] rfl) (by omega)
                    ·
                      have r6290 : R (0) (124) i5102 := ⟨by omega, by omega⟩
                      refine r_aload_n S dX12_ferry_122 rfl (lv_at hl 0 rfl) ?_
                      refine r_get (K := 38) (v := .ref (G.2.2.2.1 134)) S X5107 (Nat.le_of_ble_eq_true rfl) rfl lk12_37_10 (fun _ => ⟨_, rfl, rfl⟩) dX12_ferry_123 ?_
                      refine r_iload_n S dX12_ferry_126 rfl (lv_at hl 1 rfl) ?_
                      refine r_aldn (n := 125) (K := 41) S X5107 (Nat.le_of_ble_eq_true rfl) rfl (fun _ => rfl) (ix_of r6290 rfl) dX12_ferry_127 (fun v6291 z6292 => ?_)
                      have r6294 := R_any v6291
                      have g6295 : Rg 41 i5102.toNatClampNeg v6291 := rd I5105 rfl z6292
                      refine r_goto (tgt := 132) S dX12_ferry_128 (by decide) ?_
                      refine r_ast (n := 513) (K := 40) S X5107 (Nat.le_of_ble_eq_true rfl) rfl (fun _ _ => rfl) (ix_of r6290 rfl) dX12_ferry_132 (fun t6296 H lc M6297 X6298 => ?_)
                      have I6299 := Inv_mu I5105 M6297 (show Rg (kd 133) _ v6291 from seg_c (K := 40) (K2 := 41) (a := 0) (b := 0) (n := 125) g6295 (R_of r6290 rfl) (by omega) (by decide +kernel))
                      have F6300 : Fr [(131, 0), (131, 15), (131, 16), (131, 4), (131, 11), (131, 12), (131, 13), (131, 14), (131, 2), (131, 3), (131, 5), (131, 18), (131, 19), (131, 20), (131, 21), (131, 24)] [134, 133, 331, 336] τ t6296 := Fr_cell F5106 M6297 (by decide)
                      refine r_iinc (k := 1) S dX12_ferry_133 hl rfl (by decide) (by decide) (fun v6301 d6302 ls z6303 z6304 hl => ?_)
                      obtain ⟨e6305, r6306⟩ := i_add (lo := 1) (hi := 125) z6303 r6290 (R_eq z6304) rfl
                      have hl : lv_has ls 2 [(1, .int v6301), (0, .ref (G.2.2.2.1 131))] := hl
                      refine r_goto (tgt := 104) S dX12_ferry_136 (by decide) ?_
                      exact ih5114 t6296 _ _ _ v6301 X6298 I6299 F6300 (R_of r6306 rfl) ((M6297.2 131 0 (Or.inl (by decide))).trans z5108) ((M6297.2 131 2 (Or.inl (by decide))).trans z5109) ((M6297.2 131 19 (Or.inl (by decide))).trans z5110) ((M6297.2 131 4 (Or.inl (by decide))).trans z5111) ((M6297.2 131 11 (Or.inl (by decide))).trans z5112) (lv_sub hl [1, 0] rfl) (by omega)
              exact L5113 _ t3917 _ _ _ v3936 X3920 I3918 F3919 (R_of r3938 rfl) z3921 z3922 z3925 z3928 z3931 (lv_sub hl [1, 0] rfl) (Nat.lt_succ_self _)
            ·
              have r6307 : R (1) (4) f3929 := ⟨by omega, by omega⟩
              refine r_aload_n S dX12_ferry_66 rfl (lv_at hl 0 rfl) ?_
              refine r_ki (q_V (As := []) (rest := []) (K := 38) (ci := 10) S X3920 (c_X12_line l G t3917 I3918 ) ck12_243 (Nat.le_of_ble_eq_true rfl) rfl (fun _ => ⟨_, rfl⟩) ⟨_, _, rfl⟩ ⟨Nat.le_of_ble_eq_true rfl, Nat.le_of_ble_eq_true rfl⟩ rfl hl.1 rfl (Nat.le_of_ble_eq_true rfl) dX12_ferry_67 ⟨Nat.le_refl 0, Nat.le_refl 0⟩) X3920 (fun v6311 t6310 H lc q6308 X6309 => ?_)
              unfold po_X12_line at q6308
              obtain ⟨q6312, q6313, q6314, q6315, q6316, q6317, q6318⟩ := q6308
              have F6319 : Fr [(131, 0), (131, 15), (131, 16), (131, 4), (131, 11), (131, 12), (131, 13), (131, 14), (131, 2), (131, 3), (131, 5), (131, 18), (131, 19), (131, 20), (131, 21), (131, 24)] [134, 133, 331, 336] τ t6310 := Fr_call F3919 q6313 (by decide)
              obtain ⟨v6320, z6321⟩ : ∃ x, t6310 131 4 = x := ⟨_, rfl⟩
              rw [z6321] at q6315
              obtain ⟨v6322, z6323⟩ : ∃ x, t6310 131 11 = x := ⟨_, rfl⟩
              rw [z6323] at q6316
              have e6324 := congrArg Int32.toInt z3928
              have e6325 := congrArg Int32.toInt z6321
              have e6326 := congrArg Int32.toInt z3928
              have e6327 := congrArg Int32.toInt z6321
              refine r_if_eq (tgt := 82) S dX12_ferry_70 (by decide) (fun c6328 => ?_) (fun c6328 => ?_)
              ·
                have r6329 : R (0) (0) v6311 := ⟨by omega, by omega⟩
                refine r_iconst S dX12_ferry_82 (by decide) (fun v6330 z6331 => ?_)
                have r6332 := R_eq z6331
                refine r_aload_n S dX12_ferry_83 rfl (lv_at hl 0 rfl) ?_
                refine r_getn (K := 38) S X6309 (Nat.le_of_ble_eq_true rfl) rfl lk12_177_10 (fun _ => ⟨_, rfl, rfl⟩) dX12_ferry_84 (fun v6333 z6334 => ?_)
                have r6336 := R_any v6333
                refine r_isub S dX12_ferry_87 (fun v6337 z6338 => ?_)
                obtain ⟨e6339, r6340⟩ := i_sub (lo := -2147483648) (hi := 2147483647) z6338 r6332 r6336 rfl
                exact r_ret S hr hlk X6309 ⟨q6312, F6319, (by rw [((q6313 131 2 (by decide)).trans z3922)]; exact R_of q17 rfl)⟩ rfl dX12_ferry_88
              ·
                have r6341 : R (1) (1) v6311 := ⟨by omega, by omega⟩
                refine r_aload_n S dX12_ferry_73 rfl (lv_at hl 0 rfl) ?_
                refine r_bipush S dX12_ferry_74 (by decide) (fun v6342 z6343 => ?_)
                have r6344 := R_eq z6343
                refine r_ki (q_V (As := [.int v6342]) (rest := []) (K := 38) (ci := 10) S X6309 (c_X12_sign l G t6310 q6312 v6342 (R_of (lo := -2147483648) (hi := 2147483647) r6344 rfl)) ck12_246 (Nat.le_of_ble_eq_true rfl) rfl (fun _ => ⟨_, rfl⟩) ⟨_, _, rfl⟩ ⟨Nat.le_of_ble_eq_true rfl, Nat.le_of_ble_eq_true rfl⟩ rfl hl.1 rfl (Nat.le_of_ble_eq_true rfl) dX12_ferry_76 ⟨Nat.le_refl 0, Nat.le_refl 0⟩) X6309 (fun v6348 t6347 H lc q6345 X6346 => ?_)
                unfold po_X12_sign at q6345
                obtain ⟨q6349, q6350, q6351, q6352, q6353, q6354⟩ := q6345
                have F6355 : Fr [(131, 0), (131, 15), (131, 16), (131, 4), (131, 11), (131, 12), (131, 13), (131, 14), (131, 2), (131, 3), (131, 5), (131, 18), (131, 19), (131, 20), (131, 21), (131, 24)] [134, 133, 331, 336] τ t6347 := Fr_call F6319 q6350 (by decide)
                obtain ⟨v6356, z6357⟩ : ∃ x, t6347 131 4 = x := ⟨_, rfl⟩
                rw [z6357] at q6352
                obtain ⟨v6358, z6359⟩ : ∃ x, t6347 131 11 = x := ⟨_, rfl⟩
                rw [z6359] at q6353
                have e6360 := congrArg Int32.toInt z6321
                have e6361 := congrArg Int32.toInt z6357
                refine r_if_ne (tgt := 89) S dX12_ferry_79 (by decide) (fun c6362 => ?_) (fun c6362 => ?_)
                ·
                  have r6363 : R (1) (1) v6348 := ⟨by omega, by omega⟩
                  refine r_aload_n S dX12_ferry_89 rfl (lv_at hl 0 rfl) ?_
                  refine r_dup S dX12_ferry_90 rfl ?_
                  refine r_geti (K := 38) S X6346 (Nat.le_of_ble_eq_true rfl) rfl lk12_240_10 (fun _ => ⟨_, rfl, rfl⟩) ((q6350 131 19 (by decide)).trans ((q6313 131 19 (by decide)).trans z3925)) dX12_ferry_91 ?_
                  refine r_iconst S dX12_ferry_94 (by decide) (fun v6364 z6365 => ?_)
                  have r6366 := R_eq z6365
                  refine r_iadd S dX12_ferry_95 (fun v6367 z6368 => ?_)
                  have r6369 := R_any v6367
                  refine r_put (K := 38) (ty := .int) S X6346 (Nat.le_of_ble_eq_true rfl) rfl lk12_240_10 (fun _ => ⟨_, rfl, Nat.le_of_ble_eq_true rfl, rfl⟩) (fun _ _ _ h => by cases h; exact ⟨rfl, rfl⟩) rfl rfl dX12_ferry_96 (fun t6370 H lc M6371 X6372 => ?_)
                  have I6373 := Inv_mu q6349 M6371 (R_any v6367)
                  have F6374 : Fr [(131, 0), (131, 15), (131, 16), (131, 4), (131, 11), (131, 12), (131, 13), (131, 14), (131, 2), (131, 3), (131, 5), (131, 18), (131, 19), (131, 20), (131, 21), (131, 24)] [134, 133, 331, 336] τ t6370 := Fr_mu F6355 M6371 (by decide)
                  refine r_goto (tgt := 59) S dX12_ferry_99 (by decide) ?_
                  exact ih3933 t6370 _ _ _ v6367 v6356 v6358 X6372 I6373 F6374 ((M6371.2 131 0 (Or.inr (by decide))).trans ((q6350 131 0 (by decide)).trans ((q6313 131 0 (by decide)).trans z3921))) ((M6371.2 131 2 (Or.inr (by decide))).trans ((q6350 131 2 (by decide)).trans ((q6313 131 2 (by decide)).trans z3922))) M6371.1 ⟨by omega, by omega⟩ ((M6371.2 131 4 (Or.inr (by decide))).trans z6357) ⟨by omega, by omega⟩ ((M6371.2 131 11 (Or.inr (by decide))).trans z6359) ⟨by omega, by omega⟩ (lv_sub hl [0] rfl) (by omega)
                ·
                  have r6375 : R (0) (0) v6348 := ⟨by omega, by omega⟩
                  refine r_iconst S dX12_ferry_82 (by decide) (fun v6376 z6377 => ?_)
                  have r6378 := R_eq z6377
                  refine r_aload_n S dX12_ferry_83 rfl (lv_at hl 0 rfl) ?_
                  refine r_getn (K := 38) S X6346 (Nat.le_of_ble_eq_true rfl) rfl lk12_177_10 (fun _ => ⟨_, rfl, rfl⟩) dX12_ferry_84 (fun v6379 z6380 => ?_)
                  have r6382 := R_any v6379
                  refine r_isub S dX12_ferry_87 (fun v6383 z6384 => ?_)
                  obtain ⟨e6385, r6386⟩ := i_sub (lo := -2147483648) (hi := 2147483647) z6384 r6378 r6382 rfl
                  exact r_ret S hr hlk X6346 ⟨q6349, F6355, (by rw [((q6350 131 2 (by decide)).trans ((q6313 131 2 (by decide)).trans z3922))]; exact R_of q17 rfl)⟩ rfl dX12_ferry_88
        exact L3932 _ t653 _ _ _ v29 v661 v663 X652 q654 F660 ((q655 131 0 (by decide)).trans ((M647.2 131 0 (Or.inl (by decide))).trans z628)) ((q655 131 2 (by decide)).trans ((M647.2 131 2 (Or.inl (by decide))).trans z629)) ((q655 131 19 (by decide)).trans ((M647.2 131 19 (Or.inl (by decide))).trans z631)) ⟨by omega, by omega⟩ z662 ⟨by omega, by omega⟩ z664 ⟨by omega, by omega⟩ (lv_sub hl [0] rfl) (Nat.lt_succ_self _)
      ·
        have r6387 : R (0) (124) i622 := ⟨by omega, by omega⟩
        refine r_aload_n S dX12_ferry_35 rfl (lv_at hl 0 rfl) ?_
        refine r_get (K := 38) (v := .ref (G.2.2.2.1 134)) S X627 (Nat.le_of_ble_eq_true rfl) rfl lk12_37_10 (fun _ => ⟨_, rfl, rfl⟩) dX12_ferry_36 ?_
        refine r_iload_n S dX12_ferry_39 rfl (lv_at hl 1 rfl) ?_
        refine r_iconst S dX12_ferry_40 (by decide) (fun v6388 z6389 => ?_)
        have r6390 := R_eq z6389
        refine r_ast (n := 125) (K := 41) S X627 (Nat.le_of_ble_eq_true rfl) rfl (fun _ _ => rfl) (ix_of r6387 rfl) dX12_ferry_41 (fun t6391 H lc M6392 X6393 => ?_)
        have I6394 := Inv_mu I625 M6392 (show Rg (kd 134) _ v6388 from wrs (K := 41) (a := 0) (n := 125) (R_of r6387 rfl) (R_of (lo := 0) (hi := 8) r6390 rfl) (by decide +kernel))
        have F6395 : Fr [(131, 0), (131, 15), (131, 16), (131, 4), (131, 11), (131, 12), (131, 13), (131, 14), (131, 2), (131, 3), (131, 5), (131, 18), (131, 19), (131, 20), (131, 21), (131, 24)] [134, 133, 331, 336] τ t6391 := Fr_cell F626 M6392 (by decide)
        refine r_iinc (k := 1) S dX12_ferry_42 hl rfl (by decide) (by decide) (fun v6396 d6397 ls z6398 z6399 hl => ?_)
        obtain ⟨e6400, r6401⟩ := i_add (lo := 1) (hi := 125) z6398 r6387 (R_eq z6399) rfl
        have hl : lv_has ls 2 [(1, .int v6396), (0, .ref (G.2.2.2.1 131))] := hl
        refine r_goto (tgt := 29) S dX12_ferry_45 (by decide) ?_
        exact ih634 t6391 _ _ _ v6396 X6393 I6394 F6395 (R_of r6401 rfl) ((M6392.2 131 0 (Or.inl (by decide))).trans z628) ((M6392.2 131 2 (Or.inl (by decide))).trans z629) ((M6392.2 131 15 (Or.inl (by decide))).trans z630) ((M6392.2 131 19 (Or.inl (by decide))).trans z631) ((M6392.2 131 20 (Or.inl (by decide))).trans z632) (lv_sub hl [1, 0] rfl) (by omega)
  exact L633 _ t40 _ _ _ v45 X42 I43 F44 (R_of r47 rfl) ((M41.2 131 0 (Or.inr (by decide))).trans ((M33.2 131 0 (Or.inr (by decide))).trans ((M25.2 131 0 (Or.inr (by decide))).trans ((q16 131 0 (by decide)).trans M5.1)))) ((M41.2 131 2 (Or.inr (by decide))).trans ((M33.2 131 2 (Or.inr (by decide))).trans ((M25.2 131 2 (Or.inr (by decide))).trans z20))) ((M41.2 131 15 (Or.inr (by decide))).trans ((M33.2 131 15 (Or.inr (by decide))).trans M25.1)) ((M41.2 131 19 (Or.inr (by decide))).trans M33.1) M41.1 (lv_sub hl [1, 0] rfl) (Nat.lt_succ_self _)
