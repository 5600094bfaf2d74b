-- PART: access: what is written
def hdx (u : cs_St) (y : Int64) : cs_St := (u.1, vp_updL u.2 11 y)
def hdm (w : ms_St) (y : Int64) : ms_St := (w.1, w.2.1, w.2.2.1, vp_updL w.2.2.2 1 y)
theorem wr_770 {u : cs_St} {w : ms_St} (X y : Int64) (hR : rr_R u w) : rr_R (hdx (f_X_store u 770 X) y) (f_M_write (hdm w y) 770 X) := by
  have e : X &&& (46079) = (w.2.1 770 &&& ((46079) ^^^ (-1))) ||| (X &&& (46079)) := by
    rw [← hR.2.1.2.2.1]
    exact (wi_thr X hR.2.2.2.2.2.2.2.2.1).symm
  show rr_R (u.1, vp_updL (vp_updL u.2 2 (X &&& (46079))) 11 y) (w.1, vp_updL w.2.1 (770 : Int32).toNatClampNeg ((w.2.1 (770 : Int32).toNatClampNeg &&& ((46079) ^^^ (-1))) ||| (X &&& (46079))), w.2.2.1, vp_updL w.2.2.2 1 y)
  rw [cl_770]
  exact rs_11 (rs_2 hR e (wi_and _ _)) rfl
theorem wr_771 {u : cs_St} {w : ms_St} (X y : Int64) (hR : rr_R u w) : rr_R (hdx (f_X_store u 771 X) y) (f_M_write (hdm w y) 771 X) := by
  have e : X &&& (546) = (w.2.1 771 &&& ((546) ^^^ (-1))) ||| (X &&& (546)) := by
    rw [← hR.2.1.2.2.2.1]
    exact (wi_thr X hR.2.2.2.2.2.2.2.2.2.1).symm
  show rr_R (u.1, vp_updL (vp_updL u.2 3 (X &&& (546))) 11 y) (w.1, vp_updL w.2.1 (771 : Int32).toNatClampNeg ((w.2.1 (771 : Int32).toNatClampNeg &&& ((546) ^^^ (-1))) ||| (X &&& (546))), w.2.2.1, vp_updL w.2.2.2 1 y)
  rw [cl_771]
  exact rs_11 (rs_3 hR e (wi_and _ _)) rfl
theorem wr_772 {u : cs_St} {w : ms_St} (X y : Int64) (hR : rr_R u w) : rr_R (hdx (f_X_store u 772 X) y) (f_M_write (hdm w y) 772 X) := by
  have e : X &&& (2730) = (w.2.1 772 &&& ((2730) ^^^ (-1))) ||| (X &&& (2730)) := by
    rw [← hR.2.1.2.2.2.2.1]
    exact (wi_thr X hR.2.2.2.2.2.2.2.2.2.2.1).symm
  show rr_R (u.1, vp_updL (vp_updL u.2 4 (X &&& (2730))) 11 y) (w.1, vp_updL w.2.1 (772 : Int32).toNatClampNeg ((w.2.1 (772 : Int32).toNatClampNeg &&& ((2730) ^^^ (-1))) ||| (X &&& (2730))), w.2.2.1, vp_updL w.2.2.2 1 y)
  rw [cl_772]
  exact rs_11 (rs_4 hR e (wi_and _ _)) rfl
theorem wr_836 {u : cs_St} {w : ms_St} (X y : Int64) (hR : rr_R u w) : rr_R (hdx (f_X_store u 836 X) y) (f_M_write (hdm w y) 836 X) := by
  have e : X &&& (546) = (w.2.1 836 &&& ((546) ^^^ (-1))) ||| (X &&& (546)) := by
    rw [← hR.2.1.2.2.2.2.2.1]
    exact (wi_thr X hR.2.2.2.2.2.2.2.2.2.2.2.1).symm
  show rr_R (u.1, vp_updL (vp_updL u.2 5 (X &&& (546))) 11 y) (w.1, vp_updL w.2.1 (836 : Int32).toNatClampNeg ((w.2.1 (836 : Int32).toNatClampNeg &&& ((546) ^^^ (-1))) ||| (X &&& (546))), w.2.2.1, vp_updL w.2.2.2 1 y)
  rw [cl_836]
  exact rs_11 (rs_5 hR e (wi_and _ _)) rfl
theorem wr_2816 {u : cs_St} {w : ms_St} (X y : Int64) (hR : rr_R u w) : rr_R (hdx (f_X_store u 2816 X) y) (f_M_write (hdm w y) 2816 X) := by
  show rr_R (u.1, vp_updL (vp_updL u.2 8 X) 11 y) (w.1, vp_updL w.2.1 (2816 : Int32).toNatClampNeg X, w.2.2.1, vp_updL w.2.2.2 1 y)
  rw [cl_2816]
  exact rs_11 (rs_8 hR rfl) rfl
theorem wr_2818 {u : cs_St} {w : ms_St} (X y : Int64) (hR : rr_R u w) : rr_R (hdx (f_X_store u 2818 X) y) (f_M_write (hdm w y) 2818 X) := by
  show rr_R (u.1, vp_updL (vp_updL u.2 9 X) 11 y) (w.1, vp_updL w.2.1 (2818 : Int32).toNatClampNeg X, w.2.2.1, vp_updL w.2.2.2 1 y)
  rw [cl_2818]
  exact rs_11 (rs_9 hR rfl) rfl
theorem wr_773 {u : cs_St} {w : ms_St} (X y : Int64) (hR : rr_R u w) : rr_R (hdx (f_X_store u 773 X) y) (f_M_write (hdm w y) 773 X) := by
  have e : X &&& (-3) = (w.2.1 773 &&& ((-3) ^^^ (-1))) ||| (X &&& (-3)) := by
    rw [← hR.2.2.2.1.1]
    exact (wi_thr X hR.2.2.2.2.2.2.2.2.2.2.2.2.1).symm
  show rr_R (u.1, vp_updL (vp_updL u.2 13 (X &&& (-3))) 11 y) (w.1, vp_updL w.2.1 (773 : Int32).toNatClampNeg ((w.2.1 (773 : Int32).toNatClampNeg &&& ((-3) ^^^ (-1))) ||| (X &&& (-3))), w.2.2.1, vp_updL w.2.2.2 1 y)
  rw [cl_773]
  exact rs_11 (rs_13 hR e (wi_and _ _)) rfl
theorem wr_774 {u : cs_St} {w : ms_St} (X y : Int64) (hR : rr_R u w) : rr_R (hdx (f_X_store u 774 X) y) (f_M_write (hdm w y) 774 X) := by
  have e : X &&& (7) = (w.2.1 774 &&& ((7) ^^^ (-1))) ||| (X &&& (7)) := by
    rw [← hR.2.2.2.1.2.1]
    exact (wi_thr X hR.2.2.2.2.2.2.2.2.2.2.2.2.2.1).symm
  show rr_R (u.1, vp_updL (vp_updL u.2 14 (X &&& (7))) 11 y) (w.1, vp_updL w.2.1 (774 : Int32).toNatClampNeg ((w.2.1 (774 : Int32).toNatClampNeg &&& ((7) ^^^ (-1))) ||| (X &&& (7))), w.2.2.1, vp_updL w.2.2.2 1 y)
  rw [cl_774]
  exact rs_11 (rs_14 hR e (wi_and _ _)) rfl
theorem wr_832 {u : cs_St} {w : ms_St} (X y : Int64) (hR : rr_R u w) : rr_R (hdx (f_X_store u 832 X) y) (f_M_write (hdm w y) 832 X) := by
  show rr_R (u.1, vp_updL (vp_updL u.2 15 X) 11 y) (w.1, vp_updL w.2.1 (832 : Int32).toNatClampNeg X, w.2.2.1, vp_updL w.2.2.2 1 y)
  rw [cl_832]
  exact rs_11 (rs_15 hR rfl) rfl
theorem wr_833 {u : cs_St} {w : ms_St} (X y : Int64) (hR : rr_R u w) : rr_R (hdx (f_X_store u 833 X) y) (f_M_write (hdm w y) 833 X) := by
  have e : X &&& (-2) = (w.2.1 833 &&& ((-2) ^^^ (-1))) ||| (X &&& (-2)) := by
    rw [← hR.2.2.2.1.2.2.2.1]
    exact (wi_thr X hR.2.2.2.2.2.2.2.2.2.2.2.2.2.2.1).symm
  show rr_R (u.1, vp_updL (vp_updL u.2 16 (X &&& (-2))) 11 y) (w.1, vp_updL w.2.1 (833 : Int32).toNatClampNeg ((w.2.1 (833 : Int32).toNatClampNeg &&& ((-2) ^^^ (-1))) ||| (X &&& (-2))), w.2.2.1, vp_updL w.2.2.2 1 y)
  rw [cl_833]
  exact rs_11 (rs_16 hR e (wi_and _ _)) rfl
theorem wr_834 {u : cs_St} {w : ms_St} (X y : Int64) (hR : rr_R u w) : rr_R (hdx (f_X_store u 834 X) y) (f_M_write (hdm w y) 834 X) := by
  show rr_R (u.1, vp_updL (vp_updL u.2 17 X) 11 y) (w.1, vp_updL w.2.1 (834 : Int32).toNatClampNeg X, w.2.2.1, vp_updL w.2.2.2 1 y)
  rw [cl_834]
  exact rs_11 (rs_17 hR rfl) rfl
theorem wr_835 {u : cs_St} {w : ms_St} (X y : Int64) (hR : rr_R u w) : rr_R (hdx (f_X_store u 835 X) y) (f_M_write (hdm w y) 835 X) := by
  show rr_R (u.1, vp_updL (vp_updL u.2 18 X) 11 y) (w.1, vp_updL w.2.1 (835 : Int32).toNatClampNeg X, w.2.2.1, vp_updL w.2.2.2 1 y)
  rw [cl_835]
  exact rs_11 (rs_18 hR rfl) rfl
theorem wr_261 {u : cs_St} {w : ms_St} (X y : Int64) (hR : rr_R u w) : rr_R (hdx (f_X_store u 261 X) y) (f_M_write (hdm w y) 261 X) := by
  have e : X &&& (-3) = (w.2.1 261 &&& ((-3) ^^^ (-1))) ||| (X &&& (-3)) := by
    rw [← hR.2.2.2.2.1.1]
    exact (wi_thr X hR.2.2.2.2.2.2.2.2.2.2.2.2.2.2.2.1).symm
  show rr_R (u.1, vp_updL (vp_updL u.2 19 (X &&& (-3))) 11 y) (w.1, vp_updL w.2.1 (261 : Int32).toNatClampNeg ((w.2.1 (261 : Int32).toNatClampNeg &&& ((-3) ^^^ (-1))) ||| (X &&& (-3))), w.2.2.1, vp_updL w.2.2.2 1 y)
  rw [cl_261]
  exact rs_11 (rs_19 hR e (wi_and _ _)) rfl
theorem wr_262 {u : cs_St} {w : ms_St} (X y : Int64) (hR : rr_R u w) : rr_R (hdx (f_X_store u 262 X) y) (f_M_write (hdm w y) 262 X) := by
  have e : X &&& (7) = (w.2.1 262 &&& ((7) ^^^ (-1))) ||| (X &&& (7)) := by
    rw [← hR.2.2.2.2.1.2.1]
    exact (wi_thr X hR.2.2.2.2.2.2.2.2.2.2.2.2.2.2.2.2.1).symm
  show rr_R (u.1, vp_updL (vp_updL u.2 20 (X &&& (7))) 11 y) (w.1, vp_updL w.2.1 (262 : Int32).toNatClampNeg ((w.2.1 (262 : Int32).toNatClampNeg &&& ((7) ^^^ (-1))) ||| (X &&& (7))), w.2.2.1, vp_updL w.2.2.2 1 y)
  rw [cl_262]
  exact rs_11 (rs_20 hR e (wi_and _ _)) rfl
theorem wr_320 {u : cs_St} {w : ms_St} (X y : Int64) (hR : rr_R u w) : rr_R (hdx (f_X_store u 320 X) y) (f_M_write (hdm w y) 320 X) := by
  show rr_R (u.1, vp_updL (vp_updL u.2 21 X) 11 y) (w.1, vp_updL w.2.1 (320 : Int32).toNatClampNeg X, w.2.2.1, vp_updL w.2.2.2 1 y)
  rw [cl_320]
  exact rs_11 (rs_21 hR rfl) rfl
theorem wr_321 {u : cs_St} {w : ms_St} (X y : Int64) (hR : rr_R u w) : rr_R (hdx (f_X_store u 321 X) y) (f_M_write (hdm w y) 321 X) := by
  have e : X &&& (-2) = (w.2.1 321 &&& ((-2) ^^^ (-1))) ||| (X &&& (-2)) := by
    rw [← hR.2.2.2.2.1.2.2.2.1]
    exact (wi_thr X hR.2.2.2.2.2.2.2.2.2.2.2.2.2.2.2.2.2).symm
  show rr_R (u.1, vp_updL (vp_updL u.2 22 (X &&& (-2))) 11 y) (w.1, vp_updL w.2.1 (321 : Int32).toNatClampNeg ((w.2.1 (321 : Int32).toNatClampNeg &&& ((-2) ^^^ (-1))) ||| (X &&& (-2))), w.2.2.1, vp_updL w.2.2.2 1 y)
  rw [cl_321]
  exact rs_11 (rs_22 hR e (wi_and _ _)) rfl
theorem wr_322 {u : cs_St} {w : ms_St} (X y : Int64) (hR : rr_R u w) : rr_R (hdx (f_X_store u 322 X) y) (f_M_write (hdm w y) 322 X) := by
  show rr_R (u.1, vp_updL (vp_updL u.2 23 X) 11 y) (w.1, vp_updL w.2.1 (322 : Int32).toNatClampNeg X, w.2.2.1, vp_updL w.2.2.2 1 y)
  rw [cl_322]
  exact rs_11 (rs_23 hR rfl) rfl
theorem wr_323 {u : cs_St} {w : ms_St} (X y : Int64) (hR : rr_R u w) : rr_R (hdx (f_X_store u 323 X) y) (f_M_write (hdm w y) 323 X) := by
  show rr_R (u.1, vp_updL (vp_updL u.2 24 X) 11 y) (w.1, vp_updL w.2.1 (323 : Int32).toNatClampNeg X, w.2.2.1, vp_updL w.2.2.2 1 y)
  rw [cl_323]
  exact rs_11 (rs_24 hR rfl) rfl
theorem wr_769 {u : cs_St} {w : ms_St} (X y : Int64) (hR : rr_R u w) : rr_R (hdx (f_X_store u 769 X) y) (f_M_write (hdm w y) 769 X) := by
  show rr_R (u.1, vp_updL u.2 11 y) (w.1, w.2.1, w.2.2.1, vp_updL w.2.2.2 1 y)
  exact rs_11 hR rfl
theorem wr_260 {u : cs_St} {w : ms_St} (X y : Int64) (hR : rr_R u w) : rr_R (hdx (f_X_store u 260 X) y) (f_M_write (hdm w y) 260 X) := by
  have e : (u.2 4 &&& (u.2 3 ^^^ (-1))) ||| (X &&& u.2 3) = (w.2.1 772 &&& (w.2.1 771 ^^^ (-1))) ||| (X &&& w.2.1 771) := by
    rw [hR.2.1.2.2.2.2.1, hR.2.1.2.2.2.1]
  show rr_R (u.1, vp_updL (vp_updL u.2 4 ((u.2 4 &&& (u.2 3 ^^^ (-1))) ||| (X &&& u.2 3))) 11 y) (w.1, vp_updL w.2.1 (772 : Int32).toNatClampNeg ((w.2.1 (772 : Int32).toNatClampNeg &&& (w.2.1 (771 : Int32).toNatClampNeg ^^^ (-1))) ||| (X &&& w.2.1 (771 : Int32).toNatClampNeg)), w.2.2.1, vp_updL w.2.2.2 1 y)
  rw [cl_772, cl_771]
  exact rs_11 (rs_4 hR e (wi_mrg X hR.2.2.2.2.2.2.2.2.2.2.1 (wi_tr hR.2.2.2.2.2.2.2.2.2.1 (wi_d (by decide +kernel))))) rfl
theorem wr_324 {u : cs_St} {w : ms_St} (X y : Int64) (hR : rr_R u w) : rr_R (hdx (f_X_store u 324 X) y) (f_M_write (hdm w y) 324 X) := by
  have e : (u.2 5 &&& (((2 : Int64) &&& u.2 3) ^^^ (-1))) ||| (X &&& ((2 : Int64) &&& u.2 3)) = (w.2.1 836 &&& ((w.2.1 771 &&& 2) ^^^ (-1))) ||| (X &&& (w.2.1 771 &&& 2)) := by
    rw [hR.2.1.2.2.2.2.2.1, hR.2.1.2.2.2.1, Int64.and_comm 2 (w.2.1 771)]
  show rr_R (u.1, vp_updL (vp_updL u.2 5 ((u.2 5 &&& (((2 : Int64) &&& u.2 3) ^^^ (-1))) ||| (X &&& ((2 : Int64) &&& u.2 3)))) 11 y) (w.1, vp_updL w.2.1 (836 : Int32).toNatClampNeg ((w.2.1 (836 : Int32).toNatClampNeg &&& ((w.2.1 (771 : Int32).toNatClampNeg &&& 2) ^^^ (-1))) ||| (X &&& (w.2.1 (771 : Int32).toNatClampNeg &&& 2))), w.2.2.1, vp_updL w.2.2.2 1 y)
  rw [cl_836, cl_771]
  exact rs_11 (rs_5 hR e (wi_mrg X hR.2.2.2.2.2.2.2.2.2.2.2.1 (wi_al _ (wi_d (by decide +kernel))))) rfl
-- the table
theorem bq_ge (x : Int64) {i : Nat} (h : 64 ≤ i) : bq x i = false := BitVec.getLsbD_of_ge _ _ h
theorem k_15 : ∀ i, i < 64 → bq 15 i = decide (i < 4) := by decide +kernel
theorem ta_k (X : Int64) : (X >>> ((60 : Int32).toInt64 &&& 63)) &&& 15 = (X.toUInt64 >>> ((60 : Int32).toInt64.toUInt64 &&& Int64.toUInt64 63)).toInt64 := by
  refine bq_ext (fun i hi => ?_)
  rw [bq_and, show bq (X >>> ((60 : Int32).toInt64 &&& 63)) i = _ from bq_sshr 60 (by decide) X hi, show bq ((X.toUInt64 >>> ((60 : Int32).toInt64.toUInt64 &&& Int64.toUInt64 63)).toInt64) i = _ from bq_ushr 60 (by decide) X i, k_15 i hi]
  by_cases h : i < 4
  · rw [if_pos (by omega), decide_eq_true h, Bool.and_true]
  · rw [decide_eq_false h, Bool.and_false, bq_ge X (by omega)]
theorem k_m1 (x X : Int64) : (x &&& ((-1) ^^^ (-1))) ||| (X &&& (-1)) = X := by
  refine bq_ext (fun i hi => ?_)
  rw [bq_or, bq_and, bq_and, bq_not _ hi, bq_m1 i hi]
  simp
theorem k_m0 (x X : Int64) : (x &&& (0 ^^^ (-1))) ||| (X &&& 0) = x := by
  refine bq_ext (fun i hi => ?_)
  rw [bq_or, bq_and, bq_and, bq_not _ hi, bq_0]
  simp
theorem wr_384 {u : cs_St} {w : ms_St} (X y : Int64) (hR : rr_R u w) : rr_R (hdx (f_X_store u 384 X) y) (f_M_write (hdm w y) 384 X) := by
  have ey : rr_R (u.1, vp_updL (vp_updL u.2 7 X) 11 y) (f_M_write_342 (hdm w y) 384 X (-1)) := by
    show rr_R _ (w.1, vp_updL w.2.1 (384 : Int32).toNatClampNeg ((w.2.1 (384 : Int32).toNatClampNeg &&& ((-1) ^^^ (-1))) ||| (X &&& (-1))), w.2.2.1, vp_updL w.2.2.2 1 y)
    rw [cl_384, k_m1]
    exact rs_11 (rs_7 hR rfl) rfl
  have en : rr_R (u.1, vp_updL u.2 11 y) (f_M_write_342 (hdm w y) 384 X 0) := by
    show rr_R _ (w.1, vp_updL w.2.1 (384 : Int32).toNatClampNeg ((w.2.1 (384 : Int32).toNatClampNeg &&& (0 ^^^ (-1))) ||| (X &&& 0)), w.2.2.1, vp_updL w.2.2.2 1 y)
    rw [cl_384, k_m0]
    have hx := hR.2.1.2.2.2.2.2.2.1
    exact ⟨hR.1, ⟨hR.2.1.1, hR.2.1.2.1, hR.2.1.2.2.1, hR.2.1.2.2.2.1, hR.2.1.2.2.2.2.1, hR.2.1.2.2.2.2.2.1, hx, hR.2.1.2.2.2.2.2.2.2.1, hR.2.1.2.2.2.2.2.2.2.2⟩, ⟨hR.2.2.1.1, rfl, hR.2.2.1.2.2⟩, hR.2.2.2.1, hR.2.2.2.2.1, hR.2.2.2.2.2.1, hR.2.2.2.2.2.2.1, hR.2.2.2.2.2.2.2.1, hR.2.2.2.2.2.2.2.2⟩
  have es : f_X_store u 384 X = f_X_storeTable u X := rfl
  have em : f_M_write (hdm w y) 384 X = (if lg_cmp ((X >>> ((60 : Int32).toInt64 &&& 63)) &&& 15) 0 = 0 then f_M_write_342 (hdm w y) 384 X (-1) else if lg_cmp ((X >>> ((60 : Int32).toInt64 &&& 63)) &&& 15) 8 = 0 then f_M_write_342 (hdm w y) 384 X (-1) else if lg_cmp ((X >>> ((60 : Int32).toInt64 &&& 63)) &&& 15) 9 = 0 then f_M_write_342 (hdm w y) 384 X (-1) else f_M_write_342 (hdm w y) 384 X 0) := rfl
  rw [es, em, ta_k]
  unfold f_X_storeTable f_X_storeTable_27
  dsimp only
  by_cases h0 : lg_cmp (X.toUInt64 >>> ((60 : Int32).toInt64.toUInt64 &&& Int64.toUInt64 63)).toInt64 0 = 0
  · rw [if_pos h0, if_pos h0]; exact ey
  · rw [if_neg h0, if_neg h0]
    by_cases h8 : lg_cmp (X.toUInt64 >>> ((60 : Int32).toInt64.toUInt64 &&& Int64.toUInt64 63)).toInt64 8 = 0
    · rw [if_pos h8, if_pos h8]; exact ey
    · rw [if_neg h8, if_neg h8]
      by_cases h9 : lg_cmp (X.toUInt64 >>> ((60 : Int32).toInt64.toUInt64 &&& Int64.toUInt64 63)).toInt64 9 = 0
      · rw [if_pos h9, if_pos h9]; exact ey
      · rw [if_neg h9, if_neg h9]; exact en
-- the status
theorem k_6144 : ∀ i, i < 64 → bq 6144 i = (decide (i = 11) || decide (i = 12)) := by decide +kernel
theorem mpp_2 (x : Int64) : mpp x = 2 ↔ bq x 11 = false ∧ bq x 12 = true := by
  unfold mpp
  cases bq x 11 <;> cases bq x 12 <;> decide
theorem mpp_l (x : Int64) : mpp x - mpp x / 2 * 2 = ib (bq x 11) := by
  unfold mpp
  cases bq x 11 <;> cases bq x 12 <;> decide
theorem mpp_h (x : Int64) : mpp x / 2 = ib (bq x 12) := by
  unfold mpp
  cases bq x 11 <;> cases bq x 12 <;> decide
theorem ws_b (x s : Int64) : (x &&& (6144 ^^^ (-1))) ||| (s &&& 6144) = pb (pb x 11 (bq s 11)) 12 (bq s 12) := by
  refine bq_ext (fun i hi => ?_)
  rw [bq_or, bq_and, bq_and, bq_not _ hi, k_6144 i hi, pb_bit _ (by decide) _ hi, pb_bit _ (by decide) _ hi]
  by_cases a : i = 11
  · subst a; simp
  · by_cases b : i = 12
    · subst b; simp
    · simp [a, b]
theorem ws_m (w : ms_St) (m v : Int64) : f_M_writeStatus w m v = sst w (if mpp ((w.2.1 768 &&& (m ^^^ (-1))) ||| (v &&& m)) = 2 then pb (pb ((w.2.1 768 &&& (m ^^^ (-1))) ||| (v &&& m)) 11 (bq (w.2.1 768) 11)) 12 (bq (w.2.1 768) 12) else (w.2.1 768 &&& (m ^^^ (-1))) ||| (v &&& m)) := by
  have et : f_M_through w 768 m v = sst w ((w.2.1 768 &&& (m ^^^ (-1))) ||| (v &&& m)) := by
    unfold f_M_through sst
    dsimp only
    rw [cl_768]
  unfold f_M_writeStatus
  dsimp only
  rw [et, bel_eq, bel_eq, sst_r]
  by_cases h : mpp ((w.2.1 768 &&& (m ^^^ (-1))) ||| (v &&& m)) = 2
  · rw [if_pos h, if_pos h, mpp_l, mpp_h, put_11, put_12, sst_sst, sst_r, sst_sst, sst_r]
  · rw [if_neg h, if_neg h]
theorem ws_c (u : cs_St) (v m : Int64) : f_X_storeStatus u v m = (u.1, vp_updL u.2 1 (if mpp ((u.2 1 &&& (m ^^^ (-1))) ||| (v &&& m)) = 2 then pb (pb ((u.2 1 &&& (m ^^^ (-1))) ||| (v &&& m)) 11 (bq (u.2 1) 11)) 12 (bq (u.2 1) 12) else (u.2 1 &&& (m ^^^ (-1))) ||| (v &&& m))) := by
  unfold f_X_storeStatus f_X_storeStatus_29 f_X_storeStatus_54 f_X_merged
  dsimp only
  by_cases h : mpp ((u.2 1 &&& (m ^^^ (-1))) ||| (v &&& m)) = 2
  · rw [if_pos h, if_pos ((lg_cmp_eq _ _).mpr ((mp_2 _).mpr ((mpp_2 _).mp h))), ws_b]
    rfl
  · rw [if_neg h, if_neg (fun e => h ((mpp_2 _).mpr ((mp_2 _).mp ((lg_cmp_eq _ _).mp e))))]
    rfl
theorem ws_r {u : cs_St} {w : ms_St} (X y m : Int64) (hm : wi m 8288682) (hR : rr_R u w) : rr_R (hdx (f_X_storeStatus u X m) y) (f_M_writeStatus (hdm w y) m X) := by
  rw [ws_c, ws_m]
  have h768 : (hdm w y).2.1 768 = u.2 1 := hR.2.1.2.1.symm
  rw [h768]
  refine rs_11 (w := sst w _) (rr_st hR rfl ?_ ?_) rfl
  · split
    · exact wi_pb _ (wi_pb _ (wi_mrg X hR.2.2.2.2.2.2.2.1.1 hm) (by decide) (by decide +kernel)) (by decide) (by decide +kernel)
    · exact wi_mrg X hR.2.2.2.2.2.2.2.1.1 hm
  · split
    · rw [pb_bit _ (show 12 < 64 by decide) _ (show 12 < 64 by decide), pb_bit _ (show 12 < 64 by decide) _ (show 11 < 64 by decide), pb_bit _ (show 11 < 64 by decide) _ (show 11 < 64 by decide)]
      have := hR.2.2.2.2.2.2.2.1.2
      simpa using this
    · rename_i h
      exact fun e => h ((mpp_2 _).mpr ⟨e.2, e.1⟩)
theorem wr_256 {u : cs_St} {w : ms_St} (X y : Int64) (hR : rr_R u w) : rr_R (hdx (f_X_store u 256 X) y) (f_M_write (hdm w y) 256 X) := by
  show rr_R (hdx (f_X_storeStatus u X 811298) y) (f_M_writeStatus (hdm w y) (f_M_statusSeen (hdm w y) 0) X)
  rw [ss_0]
  exact ws_r X y _ (wi_d (by decide +kernel)) hR
theorem wr_768 {u : cs_St} {w : ms_St} (X y : Int64) (hR : rr_R u w) : rr_R (hdx (f_X_store u 768 X) y) (f_M_write (hdm w y) 768 X) := by
  show rr_R (hdx (f_X_storeStatus u X 8288682) y) (f_M_writeStatus (hdm w y) (f_M_statusSeen (hdm w y) 1) X)
  rw [ss_1]
  exact ws_r X y _ (wi_d (by decide +kernel)) hR
def Wl : List Int32 := [256, 260, 261, 262, 320, 321, 322, 323, 324, 384, 768, 769, 770, 771, 772, 773, 774, 832, 833, 834, 835, 836, 2816, 2818]
theorem Wl_in : ∀ n, n ∈ Hl → ¬ (n >>> ((10 : Int32) &&& 31)) &&& 3 = 3 → n ∈ Wl := by decide
theorem wr_e {u : cs_St} {w : ms_St} {n : Int32} (X y : Int64) (hn : n ∈ Wl) (hR : rr_R u w) : rr_R (hdx (f_X_store u n X) y) (f_M_write (hdm w y) n X) := by
  simp only [Wl, List.mem_cons, List.not_mem_nil, or_false] at hn
  rcases hn with e | e | e | e | e | e | e | e | e | e | e | e | e | e | e | e | e | e | e | e | e | e | e | e <;> subst e
  · exact wr_256 X y hR
  · exact wr_260 X y hR
  · exact wr_261 X y hR
  · exact wr_262 X y hR
  · exact wr_320 X y hR
  · exact wr_321 X y hR
  · exact wr_322 X y hR
  · exact wr_323 X y hR
  · exact wr_324 X y hR
  · exact wr_384 X y hR
  · exact wr_768 X y hR
  · exact wr_769 X y hR
  · exact wr_770 X y hR
  · exact wr_771 X y hR
  · exact wr_772 X y hR
  · exact wr_773 X y hR
  · exact wr_774 X y hR
  · exact wr_832 X y hR
  · exact wr_833 X y hR
  · exact wr_834 X y hR
  · exact wr_835 X y hR
  · exact wr_836 X y hR
  · exact wr_2816 X y hR
  · exact wr_2818 X y hR
-- the call
theorem k_512 : ∀ i, i < 64 → bq 512 i = decide (i = 9) := by decide +kernel
theorem k_512n : ∀ i, i < 64 → bq (-513) i = !decide (i = 9) := by decide +kernel
theorem ch_b (a b : Int64) : ((a ||| b) &&& (512 ^^^ (-1))) ||| (a &&& 512) = a ||| (b &&& (-513)) := by
  refine bq_ext (fun i hi => ?_)
  rw [bq_or, bq_and, bq_and, bq_or, bq_or, bq_and, bq_not _ hi, k_512 i hi, k_512n i hi]
  by_cases h : i = 9
  · subst h; simp
  · simp [h]
theorem ch_e {u : cs_St} {w : ms_St} (hR : rr_R u w) : f_X_changeable u 836 (f_X_pending u) = w.2.1 836 ||| (f_M_lineBits w &&& (-513)) := by
  show ((u.2 5 ||| u.2 6) &&& (512 ^^^ (-1))) ||| (u.2 5 &&& 512) = _
  rw [ch_b, lb_eq, hR.2.1.2.2.2.2.2.1, hR.2.2.2.2.2.2.1]
theorem op_c {op : Int32} (h1 : ¬ op < 1) (h2 : op ≤ 3) : op = 1 ∨ op = 2 ∨ op = 3 := by
  rw [Int32.lt_iff_toInt_lt] at h1
  rw [Int32.le_iff_toInt_le] at h2
  have e1 : (1 : Int32).toInt = 1 := by decide
  have e2 : (2 : Int32).toInt = 2 := by decide
  have e3 : (3 : Int32).toInt = 3 := by decide
  have : op.toInt = 1 ∨ op.toInt = 2 ∨ op.toInt = 3 := by omega
  rcases this with h | h | h
  · exact Or.inl (Int32.toInt_inj.mp (h.trans e1.symm))
  · exact Or.inr (Or.inl (Int32.toInt_inj.mp (h.trans e2.symm)))
  · exact Or.inr (Or.inr (Int32.toInt_inj.mp (h.trans e3.symm)))
theorem ac_122 (w : ms_St) (u : cs_St) (n op wr : Int32) (v y : Int64) (ho : op = 1 ∨ op = 2 ∨ op = 3) : f_M_access_122 w n op wr v y = if wr = 0 then (0, w) else (0, f_M_write w n (f_X_combined u op y v)) := by
  rcases ho with e | e | e <;> subst e <;> rfl
theorem th_w (w : ms_St) (n : Int32) (X : Int64) (hn : n ∈ Wl) : (f_M_write w n X).1 = w.1 := by
  have hs : ∀ m, (f_M_writeStatus w m X).1 = w.1 := fun m => by rw [ws_m]; rfl
  simp only [Wl, List.mem_cons, List.not_mem_nil, or_false] at hn
  rcases hn with e | e | e | e | e | e | e | e | e | e | e | e | e | e | e | e | e | e | e | e | e | e | e | e <;> subst e
  · exact hs _
  · rfl
  · rfl
  · rfl
  · rfl
  · rfl
  · rfl
  · rfl
  · rfl
  · unfold f_M_write
    iterate 6 rw [if_neg (by decide)]
    rw [if_pos rfl]
    dsimp only
    split
    · rfl
    · split
      · rfl
      · split <;> rfl
  · exact hs _
  all_goals rfl
theorem ac_m {w : ms_St} {n op wr : Int32} {v : Int64} (g1 : ¬ n < 0) (g2 : n ≤ 4095) (g3 : ¬ op < 1) (g4 : op ≤ 3) (hi : f_M_isIllegal (upd w.1 0 0, w.2) n wr = 0) (he : f_M_isElsewhere (upd w.1 0 0, w.2) n = 0) : f_M_access w n op wr v = f_M_access_122 (hdm (upd w.1 0 0, w.2) (f_M_shown (upd w.1 0 0, w.2) n)) n op wr v (if n = 836 then w.2.1 836 ||| (f_M_lineBits w &&& (-513)) else f_M_shown (upd w.1 0 0, w.2) n) := by
  unfold f_M_access
  dsimp only
  rw [if_neg g1, if_neg (Int32.not_lt.mpr g2), if_neg g3, if_pos g4, if_pos hi, if_pos he]
  by_cases h : n = 836
  · rw [if_pos h, if_pos h, cl_836]; rfl
  · rw [if_neg h, if_neg h]; rfl
theorem pl_access {u : cs_St} {w : ms_St} (n op wr : Int32) (v : Int64) (g1 : ¬ n < 0) (g2 : n ≤ 4095) (g3 : ¬ op < 1) (g4 : op ≤ 3) (hR : rr_R u w) : f_M_thrown (f_M_access w n op wr v).2 = 0 ∧ (f_X_access u n op wr v).1.toInt64 = (f_M_access w n op wr v).1.toInt64 ∧ rr_R (f_X_access u n op wr v).2 (f_M_access w n op wr v).2 := by
  have hq : rr_R u (upd w.1 0 0, w.2) := rr_thr 0 hR
  have hs := swp_n g1 g2
  have hi := il_e n wr hq hs
  have hs2 := hs
  unfold swp at hs2
  simp only [Bool.and_eq_true, decide_eq_true_eq] at hs2
  obtain ⟨⟨⟨⟨s1, s2⟩, s3⟩, s4⟩, s5⟩ := hs2
  have hel : f_M_isElsewhere (upd w.1 0 0, w.2) n = f_X_isElsewhere u n := by rw [z_me, z_el u n, s2]
  by_cases h0 : f_X_isIllegal u n wr = 0
  · by_cases he : f_X_isElsewhere u n = 0
    · obtain ⟨hH, hW⟩ := il_h h0 he
      have hsh : f_M_shown (upd w.1 0 0, w.2) n = f_X_shown u n := (sh_e hq hs).symm
      have hy : (if n = 836 then w.2.1 836 ||| (f_M_lineBits w &&& (-513)) else f_M_shown (upd w.1 0 0, w.2) n) = f_X_changeable u n (f_X_shown u n) := by
        by_cases h : n = 836
        · subst h
          rw [if_pos rfl]
          exact (ch_e hR).symm
        · rw [if_neg h, hsh]
          unfold f_X_changeable
          rw [if_neg h]
      rw [ac_m g1 g2 g3 g4 (hi ▸ h0) (hel ▸ he), hy, hsh, ac_122 _ u n op wr v _ (op_c g3 g4)]
      unfold f_X_access f_X_access_113
      dsimp only
      rw [if_pos h0, if_pos he]
      by_cases hw : wr = 0
      · rw [if_pos hw, if_pos hw]
        exact ⟨rfl, rfl, rs_11 hq rfl⟩
      · rw [if_neg hw, if_neg hw]
        have hWl := Wl_in n hH (hW hw)
        refine ⟨?_, rfl, wr_e _ _ hWl hq⟩
        show (f_M_write _ n _).1 0 = 0
        rw [th_w _ n _ hWl]
        rfl
    · have hm : f_M_access w n op wr v = if wr = 0 then (1, (upd w.1 0 0, w.2)) else if 4 ≤ n then (1, (upd w.1 0 0, w.2)) else (1, f_M_put (f_M_put (upd w.1 0 0, w.2) 13 1) 14 1) := by
        unfold f_M_access
        dsimp only
        rw [if_neg g1, if_neg (Int32.not_lt.mpr g2), if_neg g3, if_pos g4, if_pos (hi ▸ h0), if_neg (hel ▸ he)]
      rw [hm]
      unfold f_X_access
      dsimp only
      rw [if_pos h0, if_neg he]
      by_cases hw : wr = 0
      · rw [if_pos hw, if_pos hw]
        exact ⟨rfl, rfl, hq⟩
      · rw [if_neg hw, if_neg hw]
        have hz : ¬ n ≤ 0 := s5.resolve_left he
        have hf : f_X_isFloat u n = if 4 ≤ n then 0 else 1 := by rw [z_fl u n, s3, if_neg hz]
        rw [hf]
        by_cases h4 : 4 ≤ n
        · rw [if_pos h4, if_pos h4, if_pos rfl]
          exact ⟨rfl, rfl, hq⟩
        · rw [if_neg h4, if_neg h4, if_neg (by decide)]
          exact ⟨rfl, rfl, fs_r hq⟩
  · have hm : f_M_access w n op wr v = (2, (upd w.1 0 0, w.2)) := by
      unfold f_M_access
      dsimp only
      rw [if_neg g1, if_neg (Int32.not_lt.mpr g2), if_neg g3, if_pos g4, if_neg (hi ▸ h0)]
    rw [hm]
    unfold f_X_access
    dsimp only
    rw [if_neg h0]
    exact ⟨rfl, rfl, hq⟩
