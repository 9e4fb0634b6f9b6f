/-! THE LAW, arms of its switch, 0 (by program: walk.py, split_law.py) -/
def c_L_0 (s9 : Int × Mm) (sl : Int) (sc : Int → Int) : Option ((Int × Mm) ⊕ ((Int × Mm) ⊕ (Mm))) := gd (0 ≤ (w (s9.1 + 1)) ∧ (w (s9.1 + 1)) < sl) (gd (0 ≤ (w (s9.1 + 2)) ∧ (w (s9.1 + 2)) < sl) (gd (0 ≤ (w (s9.1 + 3)) ∧ (w (s9.1 + 3)) < sl) ((if (sc ((w (s9.1 + 3)))) = 0 then some (0) else some (1) : Option (Int)).bind fun (s772 : Int) => (p_L_topic s9.2 11000 (sc ((w (s9.1 + 1)))) (sc ((w (s9.1 + 2)))) s772 15000).bind fun r778 => gd (0 ≤ (w (s9.1 + 1)) ∧ (w (s9.1 + 1)) < sl) (gd (0 ≤ (w (s9.1 + 2)) ∧ (w (s9.1 + 2)) < sl) (gd (0 ≤ (w (s9.1 + 3)) ∧ (w (s9.1 + 3)) < sl) ((if (sc ((w (s9.1 + 3)))) = 0 then some (0) else some (1) : Option (Int)).bind fun (s782 : Int) => (p_X11_topic r778.2 12000 (sc ((w (s9.1 + 1)))) (sc ((w (s9.1 + 2)))) s782).bind fun r788 => (p_X11_thrown r788.2 12000).bind fun r789 => if r789 = r778.1 then if r778.1 = 0 then gd (aok 15000 0) (if (lcp (rd r788.2 15000 0) r788.1) = 0 then some (.inl ((w (s9.1 + 6)), r788.2)) else some (.inr (.inl (0, r788.2)))) else some (.inl ((w (s9.1 + 6)), r788.2)) else some (.inr (.inl (0, r788.2)))))))))
def c_L_1 (s9 : Int × Mm) (sl : Int) (sc : Int → Int) : Option ((Int × Mm) ⊕ ((Int × Mm) ⊕ (Mm))) := gd (0 ≤ (w (s9.1 + 1)) ∧ (w (s9.1 + 1)) < sl) (gd (0 ≤ (w (s9.1 + 2)) ∧ (w (s9.1 + 2)) < sl) (gd (0 ≤ (w (s9.1 + 3)) ∧ (w (s9.1 + 3)) < sl) ((p_L_retain s9.2 11000 (sc ((w (s9.1 + 1)))) (sc ((w (s9.1 + 2)))) (sc ((w (s9.1 + 3)))) 15000).bind fun r802 => gd (0 ≤ (w (s9.1 + 1)) ∧ (w (s9.1 + 1)) < sl) (gd (0 ≤ (w (s9.1 + 2)) ∧ (w (s9.1 + 2)) < sl) (gd (0 ≤ (w (s9.1 + 3)) ∧ (w (s9.1 + 3)) < sl) ((p_X11_retain r802.2 12000 (sc ((w (s9.1 + 1)))) (sc ((w (s9.1 + 2)))) (sc ((w (s9.1 + 3))))).bind fun r806 => (p_X11_thrown r806.2 12000).bind fun r807 => if r807 = r802.1 then if r802.1 = 0 then gd (aok 15000 0) (if (lcp (rd r806.2 15000 0) r806.1) = 0 then some (.inl ((w (s9.1 + 6)), r806.2)) else some (.inr (.inl (0, r806.2)))) else some (.inl ((w (s9.1 + 6)), r806.2)) else some (.inr (.inl (0, r806.2)))))))))
def c_L_2 (s9 : Int × Mm) (sl : Int) (sc : Int → Int) : Option ((Int × Mm) ⊕ ((Int × Mm) ⊕ (Mm))) := gd (0 ≤ (w (s9.1 + 1)) ∧ (w (s9.1 + 1)) < sl) ((p_L_compact s9.2 11000 (sc ((w (s9.1 + 1)))) 15000).bind fun r818 => gd (0 ≤ (w (s9.1 + 1)) ∧ (w (s9.1 + 1)) < sl) ((p_X11_compact r818.2 12000 (sc ((w (s9.1 + 1))))).bind fun r820 => (p_X11_thrown r820.2 12000).bind fun r821 => if r821 = r818.1 then if r818.1 = 0 then gd (aok 15000 0) (if (lcp (rd r820.2 15000 0) r820.1) = 0 then some (.inl ((w (s9.1 + 6)), r820.2)) else some (.inr (.inl (0, r820.2)))) else some (.inl ((w (s9.1 + 6)), r820.2)) else some (.inr (.inl (0, r820.2)))))
def c_L_3 (s9 : Int × Mm) (sl : Int) (sc : Int → Int) : Option ((Int × Mm) ⊕ ((Int × Mm) ⊕ (Mm))) := gd (0 ≤ (w (s9.1 + 1)) ∧ (w (s9.1 + 1)) < sl) ((p_L_fail s9.2 11000 (sc ((w (s9.1 + 1)))) 15000).bind fun r832 => gd (0 ≤ (w (s9.1 + 1)) ∧ (w (s9.1 + 1)) < sl) ((p_X11_fail r832.2 12000 (sc ((w (s9.1 + 1))))).bind fun r834 => (p_X11_thrown r834.2 12000).bind fun r835 => if r835 = r832.1 then if r832.1 = 0 then gd (aok 15000 0) (if (lcp (rd r834.2 15000 0) r834.1) = 0 then some (.inl ((w (s9.1 + 6)), r834.2)) else some (.inr (.inl (0, r834.2)))) else some (.inl ((w (s9.1 + 6)), r834.2)) else some (.inr (.inl (0, r834.2)))))
def c_L_4 (s9 : Int × Mm) (sl : Int) (sc : Int → Int) : Option ((Int × Mm) ⊕ ((Int × Mm) ⊕ (Mm))) := gd (0 ≤ (w (s9.1 + 1)) ∧ (w (s9.1 + 1)) < sl) ((p_L_restore s9.2 11000 (sc ((w (s9.1 + 1)))) 15000).bind fun r846 => gd (0 ≤ (w (s9.1 + 1)) ∧ (w (s9.1 + 1)) < sl) ((p_X11_restore r846.2 12000 (sc ((w (s9.1 + 1))))).bind fun r848 => (p_X11_thrown r848.2 12000).bind fun r849 => if r849 = r846.1 then if r846.1 = 0 then gd (aok 15000 0) (if (lcp (rd r848.2 15000 0) r848.1) = 0 then some (.inl ((w (s9.1 + 6)), r848.2)) else some (.inr (.inl (0, r848.2)))) else some (.inl ((w (s9.1 + 6)), r848.2)) else some (.inr (.inl (0, r848.2)))))
def c_L_5 (s9 : Int × Mm) (sl : Int) (sc : Int → Int) : Option ((Int × Mm) ⊕ ((Int × Mm) ⊕ (Mm))) := gd (0 ≤ (w (s9.1 + 1)) ∧ (w (s9.1 + 1)) < sl) ((p_L_fetch s9.2 11000 (sc ((w (s9.1 + 1)))) 15000).bind fun r860 => gd (0 ≤ (w (s9.1 + 1)) ∧ (w (s9.1 + 1)) < sl) ((p_X11_fetch r860.2 12000 (sc ((w (s9.1 + 1))))).bind fun r862 => (p_X11_thrown r862.2 12000).bind fun r863 => if r863 = r860.1 then if r860.1 = 0 then gd (aok 15000 0) (if (lcp (rd r862.2 15000 0) r862.1) = 0 then some (.inl ((w (s9.1 + 6)), r862.2)) else some (.inr (.inl (0, r862.2)))) else some (.inl ((w (s9.1 + 6)), r862.2)) else some (.inr (.inl (0, r862.2)))))
def c_L_6 (s9 : Int × Mm) (sl : Int) (sc : Int → Int) : Option ((Int × Mm) ⊕ ((Int × Mm) ⊕ (Mm))) := gd (0 ≤ (w (s9.1 + 1)) ∧ (w (s9.1 + 1)) < sl) ((p_L_speed s9.2 11000 (sc ((w (s9.1 + 1)))) 15000).bind fun r874 => gd (0 ≤ (w (s9.1 + 1)) ∧ (w (s9.1 + 1)) < sl) ((p_X11_speed r874.2 12000 (sc ((w (s9.1 + 1))))).bind fun r876 => (p_X11_thrown r876.2 12000).bind fun r877 => if r877 = r874.1 then if r874.1 = 0 then gd (aok 15000 0) (if (lcp (rd r876.2 15000 0) r876.1) = 0 then some (.inl ((w (s9.1 + 6)), r876.2)) else some (.inr (.inl (0, r876.2)))) else some (.inl ((w (s9.1 + 6)), r876.2)) else some (.inr (.inl (0, r876.2)))))
def c_L_7 (s9 : Int × Mm) (sl : Int) (sc : Int → Int) : Option ((Int × Mm) ⊕ ((Int × Mm) ⊕ (Mm))) := gd (0 ≤ (w (s9.1 + 1)) ∧ (w (s9.1 + 1)) < sl) ((p_L_tick s9.2 11000 (sc ((w (s9.1 + 1)))) 15000).bind fun r888 => gd (0 ≤ (w (s9.1 + 1)) ∧ (w (s9.1 + 1)) < sl) ((p_X11_tick r888.2 12000 (sc ((w (s9.1 + 1))))).bind fun r890 => (p_X11_thrown r890.2 12000).bind fun r891 => if r891 = r888.1 then if r888.1 = 0 then gd (aok 15000 0) (if (lcp (rd r890.2 15000 0) r890.1) = 0 then some (.inl ((w (s9.1 + 6)), r890.2)) else some (.inr (.inl (0, r890.2)))) else some (.inl ((w (s9.1 + 6)), r890.2)) else some (.inr (.inl (0, r890.2)))))
def c_L_8 (s9 : Int × Mm) : Option ((Int × Mm) ⊕ ((Int × Mm) ⊕ (Mm))) := (p_L_producer s9.2 11000 15000).bind fun r901 => (p_X11_producer r901.2 12000).bind fun r902 => (p_X11_thrown r902.2 12000).bind fun r903 => if r903 = r901.1 then if r901.1 = 0 then gd (aok 15000 0) (if (lcp (rd r902.2 15000 0) r902.1) = 0 then some (.inl ((w (s9.1 + 6)), r902.2)) else some (.inr (.inl (0, r902.2)))) else some (.inl ((w (s9.1 + 6)), r902.2)) else some (.inr (.inl (0, r902.2)))
def c_L_9 (s9 : Int × Mm) (sl : Int) (sc : Int → Int) : Option ((Int × Mm) ⊕ ((Int × Mm) ⊕ (Mm))) := gd (0 ≤ (w (s9.1 + 1)) ∧ (w (s9.1 + 1)) < sl) (gd (0 ≤ (w (s9.1 + 2)) ∧ (w (s9.1 + 2)) < sl) ((p_L_quota s9.2 11000 (sc ((w (s9.1 + 1)))) (sc ((w (s9.1 + 2)))) 15000).bind fun r915 => gd (0 ≤ (w (s9.1 + 1)) ∧ (w (s9.1 + 1)) < sl) (gd (0 ≤ (w (s9.1 + 2)) ∧ (w (s9.1 + 2)) < sl) ((p_X11_quota r915.2 12000 (sc ((w (s9.1 + 1)))) (sc ((w (s9.1 + 2))))).bind fun r918 => (p_X11_thrown r918.2 12000).bind fun r919 => if r919 = r915.1 then if r915.1 = 0 then gd (aok 15000 0) (if (lcp (rd r918.2 15000 0) r918.1) = 0 then some (.inl ((w (s9.1 + 6)), r918.2)) else some (.inr (.inl (0, r918.2)))) else some (.inl ((w (s9.1 + 6)), r918.2)) else some (.inr (.inl (0, r918.2)))))))
def c_L_10 (s9 : Int × Mm) (sl : Int) (sc : Int → Int) : Option ((Int × Mm) ⊕ ((Int × Mm) ⊕ (Mm))) := gd (0 ≤ (w (s9.1 + 1)) ∧ (w (s9.1 + 1)) < sl) (gd (0 ≤ (w (s9.1 + 2)) ∧ (w (s9.1 + 2)) < sl) (gd (0 ≤ (w (s9.1 + 3)) ∧ (w (s9.1 + 3)) < sl) (gd (0 ≤ (w (s9.1 + 4)) ∧ (w (s9.1 + 4)) < sl) ((p_L_send s9.2 11000 (sc ((w (s9.1 + 1)))) (sc ((w (s9.1 + 2)))) (sc ((w (s9.1 + 3)))) (sc ((w (s9.1 + 4)))) 15000).bind fun r933 => gd (0 ≤ (w (s9.1 + 1)) ∧ (w (s9.1 + 1)) < sl) (gd (0 ≤ (w (s9.1 + 2)) ∧ (w (s9.1 + 2)) < sl) (gd (0 ≤ (w (s9.1 + 3)) ∧ (w (s9.1 + 3)) < sl) (gd (0 ≤ (w (s9.1 + 4)) ∧ (w (s9.1 + 4)) < sl) ((p_X11_send r933.2 12000 (sc ((w (s9.1 + 1)))) (sc ((w (s9.1 + 2)))) (sc ((w (s9.1 + 3)))) (sc ((w (s9.1 + 4))))).bind fun r938 => (p_X11_thrown r938.2 12000).bind fun r939 => if r939 = r933.1 then if r933.1 = 0 then gd (aok 15000 0) (if (lcp (rd r938.2 15000 0) r938.1) = 0 then some (.inl ((w (s9.1 + 6)), r938.2)) else some (.inr (.inl (0, r938.2)))) else some (.inl ((w (s9.1 + 6)), r938.2)) else some (.inr (.inl (0, r938.2)))))))))))
def c_L_11 (s9 : Int × Mm) (sl : Int) (sc : Int → Int) : Option ((Int × Mm) ⊕ ((Int × Mm) ⊕ (Mm))) := gd (0 ≤ (w (s9.1 + 1)) ∧ (w (s9.1 + 1)) < sl) (gd (0 ≤ (w (s9.1 + 2)) ∧ (w (s9.1 + 2)) < sl) (gd (0 ≤ (w (s9.1 + 3)) ∧ (w (s9.1 + 3)) < sl) (gd (0 ≤ (w (s9.1 + 4)) ∧ (w (s9.1 + 4)) < sl) ((p_L_sendSome s9.2 11000 (sc ((w (s9.1 + 1)))) (sc ((w (s9.1 + 2)))) (sc ((w (s9.1 + 3)))) (sc ((w (s9.1 + 4)))) 15000).bind fun r953 => gd (0 ≤ (w (s9.1 + 1)) ∧ (w (s9.1 + 1)) < sl) (gd (0 ≤ (w (s9.1 + 2)) ∧ (w (s9.1 + 2)) < sl) (gd (0 ≤ (w (s9.1 + 3)) ∧ (w (s9.1 + 3)) < sl) (gd (0 ≤ (w (s9.1 + 4)) ∧ (w (s9.1 + 4)) < sl) ((p_X11_sendSome r953.2 12000 (sc ((w (s9.1 + 1)))) (sc ((w (s9.1 + 2)))) (sc ((w (s9.1 + 3)))) (sc ((w (s9.1 + 4))))).bind fun r958 => (p_X11_thrown r958.2 12000).bind fun r959 => if r959 = r953.1 then if r953.1 = 0 then gd (aok 15000 0) (if (lcp (rd r958.2 15000 0) r958.1) = 0 then some (.inl ((w (s9.1 + 6)), r958.2)) else some (.inr (.inl (0, r958.2)))) else some (.inl ((w (s9.1 + 6)), r958.2)) else some (.inr (.inl (0, r958.2)))))))))))
def c_L_12 (s9 : Int × Mm) (sl : Int) (sc : Int → Int) : Option ((Int × Mm) ⊕ ((Int × Mm) ⊕ (Mm))) := gd (0 ≤ (w (s9.1 + 1)) ∧ (w (s9.1 + 1)) < sl) (gd (0 ≤ (w (s9.1 + 2)) ∧ (w (s9.1 + 2)) < sl) (gd (0 ≤ (w (s9.1 + 3)) ∧ (w (s9.1 + 3)) < sl) (gd (0 ≤ (w (s9.1 + 4)) ∧ (w (s9.1 + 4)) < sl) (gd (0 ≤ (w (s9.1 + 5)) ∧ (w (s9.1 + 5)) < sl) ((p_L_sendLater s9.2 11000 (sc ((w (s9.1 + 1)))) (sc ((w (s9.1 + 2)))) (sc ((w (s9.1 + 3)))) (sc ((w (s9.1 + 4)))) (sc ((w (s9.1 + 5)))) 15000).bind fun r974 => gd (0 ≤ (w (s9.1 + 1)) ∧ (w (s9.1 + 1)) < sl) (gd (0 ≤ (w (s9.1 + 2)) ∧ (w (s9.1 + 2)) < sl) (gd (0 ≤ (w (s9.1 + 3)) ∧ (w (s9.1 + 3)) < sl) (gd (0 ≤ (w (s9.1 + 4)) ∧ (w (s9.1 + 4)) < sl) (gd (0 ≤ (w (s9.1 + 5)) ∧ (w (s9.1 + 5)) < sl) ((p_X11_sendLater r974.2 12000 (sc ((w (s9.1 + 1)))) (sc ((w (s9.1 + 2)))) (sc ((w (s9.1 + 3)))) (sc ((w (s9.1 + 4)))) (sc ((w (s9.1 + 5))))).bind fun r980 => (p_X11_thrown r980.2 12000).bind fun r981 => if r981 = r974.1 then if r974.1 = 0 then gd (aok 15000 0) (if (lcp (rd r980.2 15000 0) r980.1) = 0 then some (.inl ((w (s9.1 + 6)), r980.2)) else some (.inr (.inl (0, r980.2)))) else some (.inl ((w (s9.1 + 6)), r980.2)) else some (.inr (.inl (0, r980.2)))))))))))))
def c_L_13 (s9 : Int × Mm) (sl : Int) (sc : Int → Int) : Option ((Int × Mm) ⊕ ((Int × Mm) ⊕ (Mm))) := gd (0 ≤ (w (s9.1 + 1)) ∧ (w (s9.1 + 1)) < sl) (gd (0 ≤ (w (s9.1 + 2)) ∧ (w (s9.1 + 2)) < sl) ((p_L_resend s9.2 11000 (sc ((w (s9.1 + 1)))) (sc ((w (s9.1 + 2)))) 15000).bind fun r993 => gd (0 ≤ (w (s9.1 + 1)) ∧ (w (s9.1 + 1)) < sl) (gd (0 ≤ (w (s9.1 + 2)) ∧ (w (s9.1 + 2)) < sl) ((p_X11_resend r993.2 12000 (sc ((w (s9.1 + 1)))) (sc ((w (s9.1 + 2))))).bind fun r996 => (p_X11_thrown r996.2 12000).bind fun r997 => if r997 = r993.1 then if r993.1 = 0 then gd (aok 15000 0) (if (lcp (rd r996.2 15000 0) r996.1) = 0 then some (.inl ((w (s9.1 + 6)), r996.2)) else some (.inr (.inl (0, r996.2)))) else some (.inl ((w (s9.1 + 6)), r996.2)) else some (.inr (.inl (0, r996.2)))))))
def c_L_14 (s9 : Int × Mm) (sl : Int) (sc : Int → Int) : Option ((Int × Mm) ⊕ ((Int × Mm) ⊕ (Mm))) := gd (0 ≤ (w (s9.1 + 1)) ∧ (w (s9.1 + 1)) < sl) ((p_L_begin s9.2 11000 (sc ((w (s9.1 + 1)))) 15000).bind fun r1008 => gd (0 ≤ (w (s9.1 + 1)) ∧ (w (s9.1 + 1)) < sl) ((p_X11_begin r1008.2 12000 (sc ((w (s9.1 + 1))))).bind fun r1010 => (p_X11_thrown r1010.2 12000).bind fun r1011 => if r1011 = r1008.1 then if r1008.1 = 0 then gd (aok 15000 0) (if (lcp (rd r1010.2 15000 0) r1010.1) = 0 then some (.inl ((w (s9.1 + 6)), r1010.2)) else some (.inr (.inl (0, r1010.2)))) else some (.inl ((w (s9.1 + 6)), r1010.2)) else some (.inr (.inl (0, r1010.2)))))
def c_L_15 (s9 : Int × Mm) (sl : Int) (sc : Int → Int) : Option ((Int × Mm) ⊕ ((Int × Mm) ⊕ (Mm))) := gd (0 ≤ (w (s9.1 + 1)) ∧ (w (s9.1 + 1)) < sl) (gd (0 ≤ (w (s9.1 + 2)) ∧ (w (s9.1 + 2)) < sl) (gd (0 ≤ (w (s9.1 + 3)) ∧ (w (s9.1 + 3)) < sl) ((p_L_attach s9.2 11000 (sc ((w (s9.1 + 1)))) (sc ((w (s9.1 + 2)))) (sc ((w (s9.1 + 3)))) 15000).bind fun r1024 => gd (0 ≤ (w (s9.1 + 1)) ∧ (w (s9.1 + 1)) < sl) (gd (0 ≤ (w (s9.1 + 2)) ∧ (w (s9.1 + 2)) < sl) (gd (0 ≤ (w (s9.1 + 3)) ∧ (w (s9.1 + 3)) < sl) ((p_X11_attach r1024.2 12000 (sc ((w (s9.1 + 1)))) (sc ((w (s9.1 + 2)))) (sc ((w (s9.1 + 3))))).bind fun r1028 => (p_X11_thrown r1028.2 12000).bind fun r1029 => if r1029 = r1024.1 then if r1024.1 = 0 then gd (aok 15000 0) (if (lcp (rd r1028.2 15000 0) r1028.1) = 0 then some (.inl ((w (s9.1 + 6)), r1028.2)) else some (.inr (.inl (0, r1028.2)))) else some (.inl ((w (s9.1 + 6)), r1028.2)) else some (.inr (.inl (0, r1028.2)))))))))
def c_L_16 (s9 : Int × Mm) (sl : Int) (sc : Int → Int) : Option ((Int × Mm) ⊕ ((Int × Mm) ⊕ (Mm))) := gd (0 ≤ (w (s9.1 + 1)) ∧ (w (s9.1 + 1)) < sl) ((p_L_commit s9.2 11000 (sc ((w (s9.1 + 1)))) 15000).bind fun r1040 => gd (0 ≤ (w (s9.1 + 1)) ∧ (w (s9.1 + 1)) < sl) ((p_X11_commit r1040.2 12000 (sc ((w (s9.1 + 1))))).bind fun r1042 => (p_X11_thrown r1042.2 12000).bind fun r1043 => if r1043 = r1040.1 then if r1040.1 = 0 then gd (aok 15000 0) (if (lcp (rd r1042.2 15000 0) r1042.1) = 0 then some (.inl ((w (s9.1 + 6)), r1042.2)) else some (.inr (.inl (0, r1042.2)))) else some (.inl ((w (s9.1 + 6)), r1042.2)) else some (.inr (.inl (0, r1042.2)))))
def c_L_17 (s9 : Int × Mm) (sl : Int) (sc : Int → Int) : Option ((Int × Mm) ⊕ ((Int × Mm) ⊕ (Mm))) := gd (0 ≤ (w (s9.1 + 1)) ∧ (w (s9.1 + 1)) < sl) ((p_L_abort s9.2 11000 (sc ((w (s9.1 + 1)))) 15000).bind fun r1054 => gd (0 ≤ (w (s9.1 + 1)) ∧ (w (s9.1 + 1)) < sl) ((p_X11_abort r1054.2 12000 (sc ((w (s9.1 + 1))))).bind fun r1056 => (p_X11_thrown r1056.2 12000).bind fun r1057 => if r1057 = r1054.1 then if r1054.1 = 0 then gd (aok 15000 0) (if (lcp (rd r1056.2 15000 0) r1056.1) = 0 then some (.inl ((w (s9.1 + 6)), r1056.2)) else some (.inr (.inl (0, r1056.2)))) else some (.inl ((w (s9.1 + 6)), r1056.2)) else some (.inr (.inl (0, r1056.2)))))
def c_L_18 (s9 : Int × Mm) (sl : Int) (sc : Int → Int) : Option ((Int × Mm) ⊕ ((Int × Mm) ⊕ (Mm))) := gd (0 ≤ (w (s9.1 + 1)) ∧ (w (s9.1 + 1)) < sl) ((p_L_group s9.2 11000 (sc ((w (s9.1 + 1)))) 15000).bind fun r1068 => gd (0 ≤ (w (s9.1 + 1)) ∧ (w (s9.1 + 1)) < sl) ((p_X11_group r1068.2 12000 (sc ((w (s9.1 + 1))))).bind fun r1070 => (p_X11_thrown r1070.2 12000).bind fun r1071 => if r1071 = r1068.1 then if r1068.1 = 0 then gd (aok 15000 0) (if (lcp (rd r1070.2 15000 0) r1070.1) = 0 then some (.inl ((w (s9.1 + 6)), r1070.2)) else some (.inr (.inl (0, r1070.2)))) else some (.inl ((w (s9.1 + 6)), r1070.2)) else some (.inr (.inl (0, r1070.2)))))
def c_L_19 (s9 : Int × Mm) (sl : Int) (sc : Int → Int) : Option ((Int × Mm) ⊕ ((Int × Mm) ⊕ (Mm))) := gd (0 ≤ (w (s9.1 + 1)) ∧ (w (s9.1 + 1)) < sl) ((p_L_join s9.2 11000 (sc ((w (s9.1 + 1)))) 15000).bind fun r1082 => gd (0 ≤ (w (s9.1 + 1)) ∧ (w (s9.1 + 1)) < sl) ((p_X11_join r1082.2 12000 (sc ((w (s9.1 + 1))))).bind fun r1084 => (p_X11_thrown r1084.2 12000).bind fun r1085 => if r1085 = r1082.1 then if r1082.1 = 0 then gd (aok 15000 0) (if (lcp (rd r1084.2 15000 0) r1084.1) = 0 then some (.inl ((w (s9.1 + 6)), r1084.2)) else some (.inr (.inl (0, r1084.2)))) else some (.inl ((w (s9.1 + 6)), r1084.2)) else some (.inr (.inl (0, r1084.2)))))
def c_L_20 (s9 : Int × Mm) (sl : Int) (sc : Int → Int) : Option ((Int × Mm) ⊕ ((Int × Mm) ⊕ (Mm))) := gd (0 ≤ (w (s9.1 + 1)) ∧ (w (s9.1 + 1)) < sl) (gd (0 ≤ (w (s9.1 + 2)) ∧ (w (s9.1 + 2)) < sl) ((p_L_leave s9.2 11000 (sc ((w (s9.1 + 1)))) (sc ((w (s9.1 + 2)))) 15000).bind fun r1097 => gd (0 ≤ (w (s9.1 + 1)) ∧ (w (s9.1 + 1)) < sl) (gd (0 ≤ (w (s9.1 + 2)) ∧ (w (s9.1 + 2)) < sl) ((p_X11_leave r1097.2 12000 (sc ((w (s9.1 + 1)))) (sc ((w (s9.1 + 2))))).bind fun r1100 => (p_X11_thrown r1100.2 12000).bind fun r1101 => if r1101 = r1097.1 then if r1097.1 = 0 then gd (aok 15000 0) (if (lcp (rd r1100.2 15000 0) r1100.1) = 0 then some (.inl ((w (s9.1 + 6)), r1100.2)) else some (.inr (.inl (0, r1100.2)))) else some (.inl ((w (s9.1 + 6)), r1100.2)) else some (.inr (.inl (0, r1100.2)))))))
def c_L_21 (s9 : Int × Mm) (sl : Int) (sc : Int → Int) : Option ((Int × Mm) ⊕ ((Int × Mm) ⊕ (Mm))) := gd (0 ≤ (w (s9.1 + 1)) ∧ (w (s9.1 + 1)) < sl) (gd (0 ≤ (w (s9.1 + 2)) ∧ (w (s9.1 + 2)) < sl) ((p_L_beat s9.2 11000 (sc ((w (s9.1 + 1)))) (sc ((w (s9.1 + 2)))) 15000).bind fun r1113 => gd (0 ≤ (w (s9.1 + 1)) ∧ (w (s9.1 + 1)) < sl) (gd (0 ≤ (w (s9.1 + 2)) ∧ (w (s9.1 + 2)) < sl) ((p_X11_beat r1113.2 12000 (sc ((w (s9.1 + 1)))) (sc ((w (s9.1 + 2))))).bind fun r1116 => (p_X11_thrown r1116.2 12000).bind fun r1117 => if r1117 = r1113.1 then if r1113.1 = 0 then gd (aok 15000 0) (if (lcp (rd r1116.2 15000 0) r1116.1) = 0 then some (.inl ((w (s9.1 + 6)), r1116.2)) else some (.inr (.inl (0, r1116.2)))) else some (.inl ((w (s9.1 + 6)), r1116.2)) else some (.inr (.inl (0, r1116.2)))))))
def c_L_22 (s9 : Int × Mm) (sl : Int) (sc : Int → Int) : Option ((Int × Mm) ⊕ ((Int × Mm) ⊕ (Mm))) := gd (0 ≤ (w (s9.1 + 1)) ∧ (w (s9.1 + 1)) < sl) (gd (0 ≤ (w (s9.1 + 2)) ∧ (w (s9.1 + 2)) < sl) (gd (0 ≤ (w (s9.1 + 3)) ∧ (w (s9.1 + 3)) < sl) ((p_L_credits s9.2 11000 (sc ((w (s9.1 + 1)))) (sc ((w (s9.1 + 2)))) (sc ((w (s9.1 + 3)))) 15000).bind fun r1130 => gd (0 ≤ (w (s9.1 + 1)) ∧ (w (s9.1 + 1)) < sl) (gd (0 ≤ (w (s9.1 + 2)) ∧ (w (s9.1 + 2)) < sl) (gd (0 ≤ (w (s9.1 + 3)) ∧ (w (s9.1 + 3)) < sl) ((p_X11_credits r1130.2 12000 (sc ((w (s9.1 + 1)))) (sc ((w (s9.1 + 2)))) (sc ((w (s9.1 + 3))))).bind fun r1134 => (p_X11_thrown r1134.2 12000).bind fun r1135 => if r1135 = r1130.1 then if r1130.1 = 0 then gd (aok 15000 0) (if (lcp (rd r1134.2 15000 0) r1134.1) = 0 then some (.inl ((w (s9.1 + 6)), r1134.2)) else some (.inr (.inl (0, r1134.2)))) else some (.inl ((w (s9.1 + 6)), r1134.2)) else some (.inr (.inl (0, r1134.2)))))))))
def c_L_23 (s9 : Int × Mm) (sl : Int) (sc : Int → Int) : Option ((Int × Mm) ⊕ ((Int × Mm) ⊕ (Mm))) := gd (0 ≤ (w (s9.1 + 1)) ∧ (w (s9.1 + 1)) < sl) (gd (0 ≤ (w (s9.1 + 2)) ∧ (w (s9.1 + 2)) < sl) ((p_L_read s9.2 11000 (sc ((w (s9.1 + 1)))) (sc ((w (s9.1 + 2)))) 15000).bind fun r1147 => gd (0 ≤ (w (s9.1 + 1)) ∧ (w (s9.1 + 1)) < sl) (gd (0 ≤ (w (s9.1 + 2)) ∧ (w (s9.1 + 2)) < sl) ((p_X11_read r1147.2 12000 (sc ((w (s9.1 + 1)))) (sc ((w (s9.1 + 2))))).bind fun r1150 => (p_X11_thrown r1150.2 12000).bind fun r1151 => if r1151 = r1147.1 then if r1147.1 = 0 then gd (aok 15000 0) (if (lcp (rd r1150.2 15000 0) r1150.1) = 0 then some (.inl ((w (s9.1 + 6)), r1150.2)) else some (.inr (.inl (0, r1150.2)))) else some (.inl ((w (s9.1 + 6)), r1150.2)) else some (.inr (.inl (0, r1150.2)))))))
def c_L_24 (s9 : Int × Mm) (sl : Int) (sc : Int → Int) : Option ((Int × Mm) ⊕ ((Int × Mm) ⊕ (Mm))) := gd (0 ≤ (w (s9.1 + 1)) ∧ (w (s9.1 + 1)) < sl) (gd (0 ≤ (w (s9.1 + 2)) ∧ (w (s9.1 + 2)) < sl) (gd (0 ≤ (w (s9.1 + 3)) ∧ (w (s9.1 + 3)) < sl) ((p_L_done s9.2 11000 (sc ((w (s9.1 + 1)))) (sc ((w (s9.1 + 2)))) (sc ((w (s9.1 + 3)))) 15000).bind fun r1164 => gd (0 ≤ (w (s9.1 + 1)) ∧ (w (s9.1 + 1)) < sl) (gd (0 ≤ (w (s9.1 + 2)) ∧ (w (s9.1 + 2)) < sl) (gd (0 ≤ (w (s9.1 + 3)) ∧ (w (s9.1 + 3)) < sl) ((p_X11_done r1164.2 12000 (sc ((w (s9.1 + 1)))) (sc ((w (s9.1 + 2)))) (sc ((w (s9.1 + 3))))).bind fun r1168 => (p_X11_thrown r1168.2 12000).bind fun r1169 => if r1169 = r1164.1 then if r1164.1 = 0 then gd (aok 15000 0) (if (lcp (rd r1168.2 15000 0) r1168.1) = 0 then some (.inl ((w (s9.1 + 6)), r1168.2)) else some (.inr (.inl (0, r1168.2)))) else some (.inl ((w (s9.1 + 6)), r1168.2)) else some (.inr (.inl (0, r1168.2)))))))))
def c_L_25 (s9 : Int × Mm) (sl : Int) (sc : Int → Int) : Option ((Int × Mm) ⊕ ((Int × Mm) ⊕ (Mm))) := gd (0 ≤ (w (s9.1 + 1)) ∧ (w (s9.1 + 1)) < sl) (gd (0 ≤ (w (s9.1 + 2)) ∧ (w (s9.1 + 2)) < sl) (gd (0 ≤ (w (s9.1 + 3)) ∧ (w (s9.1 + 3)) < sl) ((p_L_retry s9.2 11000 (sc ((w (s9.1 + 1)))) (sc ((w (s9.1 + 2)))) (sc ((w (s9.1 + 3)))) 15000).bind fun r1182 => gd (0 ≤ (w (s9.1 + 1)) ∧ (w (s9.1 + 1)) < sl) (gd (0 ≤ (w (s9.1 + 2)) ∧ (w (s9.1 + 2)) < sl) (gd (0 ≤ (w (s9.1 + 3)) ∧ (w (s9.1 + 3)) < sl) ((p_X11_retry r1182.2 12000 (sc ((w (s9.1 + 1)))) (sc ((w (s9.1 + 2)))) (sc ((w (s9.1 + 3))))).bind fun r1186 => (p_X11_thrown r1186.2 12000).bind fun r1187 => if r1187 = r1182.1 then if r1182.1 = 0 then gd (aok 15000 0) (if (lcp (rd r1186.2 15000 0) r1186.1) = 0 then some (.inl ((w (s9.1 + 6)), r1186.2)) else some (.inr (.inl (0, r1186.2)))) else some (.inl ((w (s9.1 + 6)), r1186.2)) else some (.inr (.inl (0, r1186.2)))))))))
def c_L_26 (s9 : Int × Mm) (sl : Int) (sc : Int → Int) : Option ((Int × Mm) ⊕ ((Int × Mm) ⊕ (Mm))) := gd (0 ≤ (w (s9.1 + 1)) ∧ (w (s9.1 + 1)) < sl) (gd (0 ≤ (w (s9.1 + 2)) ∧ (w (s9.1 + 2)) < sl) ((p_L_commitOffsets s9.2 11000 (sc ((w (s9.1 + 1)))) (sc ((w (s9.1 + 2)))) 15000).bind fun r1199 => gd (0 ≤ (w (s9.1 + 1)) ∧ (w (s9.1 + 1)) < sl) (gd (0 ≤ (w (s9.1 + 2)) ∧ (w (s9.1 + 2)) < sl) ((p_X11_commitOffsets r1199.2 12000 (sc ((w (s9.1 + 1)))) (sc ((w (s9.1 + 2))))).bind fun r1202 => (p_X11_thrown r1202.2 12000).bind fun r1203 => if r1203 = r1199.1 then if r1199.1 = 0 then gd (aok 15000 0) (if (lcp (rd r1202.2 15000 0) r1202.1) = 0 then some (.inl ((w (s9.1 + 6)), r1202.2)) else some (.inr (.inl (0, r1202.2)))) else some (.inl ((w (s9.1 + 6)), r1202.2)) else some (.inr (.inl (0, r1202.2)))))))
def c_L_27 (s9 : Int × Mm) (sl : Int) (sc : Int → Int) : Option ((Int × Mm) ⊕ ((Int × Mm) ⊕ (Mm))) := gd (0 ≤ (w (s9.1 + 1)) ∧ (w (s9.1 + 1)) < sl) (gd (0 ≤ (w (s9.1 + 2)) ∧ (w (s9.1 + 2)) < sl) (gd (0 ≤ (w (s9.1 + 3)) ∧ (w (s9.1 + 3)) < sl) ((p_L_seek s9.2 11000 (sc ((w (s9.1 + 1)))) (sc ((w (s9.1 + 2)))) (sc ((w (s9.1 + 3)))) 15000).bind fun r1216 => gd (0 ≤ (w (s9.1 + 1)) ∧ (w (s9.1 + 1)) < sl) (gd (0 ≤ (w (s9.1 + 2)) ∧ (w (s9.1 + 2)) < sl) (gd (0 ≤ (w (s9.1 + 3)) ∧ (w (s9.1 + 3)) < sl) ((p_X11_seek r1216.2 12000 (sc ((w (s9.1 + 1)))) (sc ((w (s9.1 + 2)))) (sc ((w (s9.1 + 3))))).bind fun r1220 => (p_X11_thrown r1220.2 12000).bind fun r1221 => if r1221 = r1216.1 then if r1216.1 = 0 then gd (aok 15000 0) (if (lcp (rd r1220.2 15000 0) r1220.1) = 0 then some (.inl ((w (s9.1 + 6)), r1220.2)) else some (.inr (.inl (0, r1220.2)))) else some (.inl ((w (s9.1 + 6)), r1220.2)) else some (.inr (.inl (0, r1220.2)))))))))
def c_L_28 (s9 : Int × Mm) (sl : Int) (sc : Int → Int) : Option ((Int × Mm) ⊕ ((Int × Mm) ⊕ (Mm))) := gd (0 ≤ (w (s9.1 + 1)) ∧ (w (s9.1 + 1)) < sl) (gd (0 ≤ (w (s9.1 + 2)) ∧ (w (s9.1 + 2)) < sl) ((p_L_message s9.2 11000 (sc ((w (s9.1 + 1)))) (sc ((w (s9.1 + 2)))) 15000).bind fun r1233 => gd (0 ≤ (w (s9.1 + 1)) ∧ (w (s9.1 + 1)) < sl) (gd (0 ≤ (w (s9.1 + 2)) ∧ (w (s9.1 + 2)) < sl) ((p_X11_message r1233.2 12000 (sc ((w (s9.1 + 1)))) (sc ((w (s9.1 + 2))))).bind fun r1236 => (p_X11_thrown r1236.2 12000).bind fun r1237 => if r1237 = r1233.1 then if r1233.1 = 0 then gd (aok 15000 0) (if (lcp (rd r1236.2 15000 0) r1236.1) = 0 then some (.inl ((w (s9.1 + 6)), r1236.2)) else some (.inr (.inl (0, r1236.2)))) else some (.inl ((w (s9.1 + 6)), r1236.2)) else some (.inr (.inl (0, r1236.2)))))))
def c_L_29 (s9 : Int × Mm) (sl : Int) (sc : Int → Int) : Option ((Int × Mm) ⊕ ((Int × Mm) ⊕ (Mm))) := gd (0 ≤ (w (s9.1 + 1)) ∧ (w (s9.1 + 1)) < sl) (gd (0 ≤ (w (s9.1 + 2)) ∧ (w (s9.1 + 2)) < sl) ((p_L_at s9.2 11000 (sc ((w (s9.1 + 1)))) (sc ((w (s9.1 + 2)))) 15000).bind fun r1249 => gd (0 ≤ (w (s9.1 + 1)) ∧ (w (s9.1 + 1)) < sl) (gd (0 ≤ (w (s9.1 + 2)) ∧ (w (s9.1 + 2)) < sl) ((p_X11_at r1249.2 12000 (sc ((w (s9.1 + 1)))) (sc ((w (s9.1 + 2))))).bind fun r1252 => (p_X11_thrown r1252.2 12000).bind fun r1253 => if r1253 = r1249.1 then if r1249.1 = 0 then gd (aok 15000 0) (if (lcp (rd r1252.2 15000 0) r1252.1) = 0 then some (.inl ((w (s9.1 + 6)), r1252.2)) else some (.inr (.inl (0, r1252.2)))) else some (.inl ((w (s9.1 + 6)), r1252.2)) else some (.inr (.inl (0, r1252.2)))))))
def c_L_30 (s9 : Int × Mm) (sl : Int) (sc : Int → Int) : Option ((Int × Mm) ⊕ ((Int × Mm) ⊕ (Mm))) := gd (0 ≤ (w (s9.1 + 1)) ∧ (w (s9.1 + 1)) < sl) (gd (0 ≤ (w (s9.1 + 2)) ∧ (w (s9.1 + 2)) < sl) ((p_L_partition s9.2 11000 (sc ((w (s9.1 + 1)))) (sc ((w (s9.1 + 2)))) 15000).bind fun r1265 => gd (0 ≤ (w (s9.1 + 1)) ∧ (w (s9.1 + 1)) < sl) (gd (0 ≤ (w (s9.1 + 2)) ∧ (w (s9.1 + 2)) < sl) ((p_X11_partition r1265.2 12000 (sc ((w (s9.1 + 1)))) (sc ((w (s9.1 + 2))))).bind fun r1268 => (p_X11_thrown r1268.2 12000).bind fun r1269 => if r1269 = r1265.1 then if r1265.1 = 0 then gd (aok 15000 0) (if (lcp (rd r1268.2 15000 0) r1268.1) = 0 then some (.inl ((w (s9.1 + 6)), r1268.2)) else some (.inr (.inl (0, r1268.2)))) else some (.inl ((w (s9.1 + 6)), r1268.2)) else some (.inr (.inl (0, r1268.2)))))))
def c_L_31 (s9 : Int × Mm) (sl : Int) (sc : Int → Int) : Option ((Int × Mm) ⊕ ((Int × Mm) ⊕ (Mm))) := gd (0 ≤ (w (s9.1 + 1)) ∧ (w (s9.1 + 1)) < sl) (gd (0 ≤ (w (s9.1 + 2)) ∧ (w (s9.1 + 2)) < sl) (gd (0 ≤ (w (s9.1 + 3)) ∧ (w (s9.1 + 3)) < sl) ((p_L_replica s9.2 11000 (sc ((w (s9.1 + 1)))) (sc ((w (s9.1 + 2)))) (sc ((w (s9.1 + 3)))) 15000).bind fun r1282 => gd (0 ≤ (w (s9.1 + 1)) ∧ (w (s9.1 + 1)) < sl) (gd (0 ≤ (w (s9.1 + 2)) ∧ (w (s9.1 + 2)) < sl) (gd (0 ≤ (w (s9.1 + 3)) ∧ (w (s9.1 + 3)) < sl) ((p_X11_replica r1282.2 12000 (sc ((w (s9.1 + 1)))) (sc ((w (s9.1 + 2)))) (sc ((w (s9.1 + 3))))).bind fun r1286 => (p_X11_thrown r1286.2 12000).bind fun r1287 => if r1287 = r1282.1 then if r1282.1 = 0 then gd (aok 15000 0) (if (lcp (rd r1286.2 15000 0) r1286.1) = 0 then some (.inl ((w (s9.1 + 6)), r1286.2)) else some (.inr (.inl (0, r1286.2)))) else some (.inl ((w (s9.1 + 6)), r1286.2)) else some (.inr (.inl (0, r1286.2)))))))))
def c_L_32 (s9 : Int × Mm) (sl : Int) (sc : Int → Int) : Option ((Int × Mm) ⊕ ((Int × Mm) ⊕ (Mm))) := gd (0 ≤ (w (s9.1 + 1)) ∧ (w (s9.1 + 1)) < sl) (gd (0 ≤ (w (s9.1 + 2)) ∧ (w (s9.1 + 2)) < sl) ((p_L_offsetAt s9.2 11000 (sc ((w (s9.1 + 1)))) (sc ((w (s9.1 + 2)))) 15000).bind fun r1299 => gd (0 ≤ (w (s9.1 + 1)) ∧ (w (s9.1 + 1)) < sl) (gd (0 ≤ (w (s9.1 + 2)) ∧ (w (s9.1 + 2)) < sl) ((p_X11_offsetAt r1299.2 12000 (sc ((w (s9.1 + 1)))) (sc ((w (s9.1 + 2))))).bind fun r1302 => (p_X11_thrown r1302.2 12000).bind fun r1303 => if r1303 = r1299.1 then if r1299.1 = 0 then gd (aok 15000 0) (if (lcp (rd r1302.2 15000 0) r1302.1) = 0 then some (.inl ((w (s9.1 + 6)), r1302.2)) else some (.inr (.inl (0, r1302.2)))) else some (.inl ((w (s9.1 + 6)), r1302.2)) else some (.inr (.inl (0, r1302.2)))))))
def c_L_33 (s9 : Int × Mm) (sl : Int) (sc : Int → Int) : Option ((Int × Mm) ⊕ ((Int × Mm) ⊕ (Mm))) := gd (0 ≤ (w (s9.1 + 1)) ∧ (w (s9.1 + 1)) < sl) (gd (0 ≤ (w (s9.1 + 2)) ∧ (w (s9.1 + 2)) < sl) ((p_L_value s9.2 11000 (sc ((w (s9.1 + 1)))) (sc ((w (s9.1 + 2)))) 15000).bind fun r1315 => gd (0 ≤ (w (s9.1 + 1)) ∧ (w (s9.1 + 1)) < sl) (gd (0 ≤ (w (s9.1 + 2)) ∧ (w (s9.1 + 2)) < sl) ((p_X11_value r1315.2 12000 (sc ((w (s9.1 + 1)))) (sc ((w (s9.1 + 2))))).bind fun r1318 => (p_X11_thrown r1318.2 12000).bind fun r1319 => if r1319 = r1315.1 then if r1315.1 = 0 then gd (aok 15000 0) (if (lcp (rd r1318.2 15000 0) r1318.1) = 0 then some (.inl ((w (s9.1 + 6)), r1318.2)) else some (.inr (.inl (0, r1318.2)))) else some (.inl ((w (s9.1 + 6)), r1318.2)) else some (.inr (.inl (0, r1318.2)))))))
def c_L_34 (s9 : Int × Mm) (sl : Int) (sc : Int → Int) : Option ((Int × Mm) ⊕ ((Int × Mm) ⊕ (Mm))) := gd (0 ≤ (w (s9.1 + 1)) ∧ (w (s9.1 + 1)) < sl) (gd (0 ≤ (w (s9.1 + 2)) ∧ (w (s9.1 + 2)) < sl) (gd (0 ≤ (w (s9.1 + 3)) ∧ (w (s9.1 + 3)) < sl) (gd (0 ≤ (w (s9.1 + 4)) ∧ (w (s9.1 + 4)) < sl) ((p_L_sum s9.2 11000 (sc ((w (s9.1 + 1)))) (sc ((w (s9.1 + 2)))) (sc ((w (s9.1 + 3)))) (sc ((w (s9.1 + 4)))) 15000).bind fun r1333 => gd (0 ≤ (w (s9.1 + 1)) ∧ (w (s9.1 + 1)) < sl) (gd (0 ≤ (w (s9.1 + 2)) ∧ (w (s9.1 + 2)) < sl) (gd (0 ≤ (w (s9.1 + 3)) ∧ (w (s9.1 + 3)) < sl) (gd (0 ≤ (w (s9.1 + 4)) ∧ (w (s9.1 + 4)) < sl) ((p_X11_sum r1333.2 12000 (sc ((w (s9.1 + 1)))) (sc ((w (s9.1 + 2)))) (sc ((w (s9.1 + 3)))) (sc ((w (s9.1 + 4))))).bind fun r1338 => (p_X11_thrown r1338.2 12000).bind fun r1339 => if r1339 = r1333.1 then if r1333.1 = 0 then gd (aok 15000 0) (if (lcp (rd r1338.2 15000 0) r1338.1) = 0 then some (.inl ((w (s9.1 + 6)), r1338.2)) else some (.inr (.inl (0, r1338.2)))) else some (.inl ((w (s9.1 + 6)), r1338.2)) else some (.inr (.inl (0, r1338.2)))))))))))
def c_L_35 (s9 : Int × Mm) (sl : Int) (sc : Int → Int) : Option ((Int × Mm) ⊕ ((Int × Mm) ⊕ (Mm))) := gd (0 ≤ (w (s9.1 + 1)) ∧ (w (s9.1 + 1)) < sl) (gd (0 ≤ (w (s9.1 + 2)) ∧ (w (s9.1 + 2)) < sl) (gd (0 ≤ (w (s9.1 + 3)) ∧ (w (s9.1 + 3)) < sl) ((p_L_share s9.2 11000 (sc ((w (s9.1 + 1)))) (sc ((w (s9.1 + 2)))) (sc ((w (s9.1 + 3)))) 15000).bind fun r1352 => gd (0 ≤ (w (s9.1 + 1)) ∧ (w (s9.1 + 1)) < sl) (gd (0 ≤ (w (s9.1 + 2)) ∧ (w (s9.1 + 2)) < sl) (gd (0 ≤ (w (s9.1 + 3)) ∧ (w (s9.1 + 3)) < sl) ((p_X11_share r1352.2 12000 (sc ((w (s9.1 + 1)))) (sc ((w (s9.1 + 2)))) (sc ((w (s9.1 + 3))))).bind fun r1356 => (p_X11_thrown r1356.2 12000).bind fun r1357 => if r1357 = r1352.1 then if r1352.1 = 0 then gd (aok 15000 0) (if (lcp (rd r1356.2 15000 0) r1356.1) = 0 then some (.inl ((w (s9.1 + 6)), r1356.2)) else some (.inr (.inl (0, r1356.2)))) else some (.inl ((w (s9.1 + 6)), r1356.2)) else some (.inr (.inl (0, r1356.2)))))))))
def c_L_36 (s9 : Int × Mm) (sl : Int) (sc : Int → Int) : Option ((Int × Mm) ⊕ ((Int × Mm) ⊕ (Mm))) := gd (0 ≤ (w (s9.1 + 1)) ∧ (w (s9.1 + 1)) < sl) (gd (0 ≤ (w (s9.1 + 2)) ∧ (w (s9.1 + 2)) < sl) (gd (0 ≤ (w (s9.1 + 3)) ∧ (w (s9.1 + 3)) < sl) ((p_L_member s9.2 11000 (sc ((w (s9.1 + 1)))) (sc ((w (s9.1 + 2)))) (sc ((w (s9.1 + 3)))) 15000).bind fun r1370 => gd (0 ≤ (w (s9.1 + 1)) ∧ (w (s9.1 + 1)) < sl) (gd (0 ≤ (w (s9.1 + 2)) ∧ (w (s9.1 + 2)) < sl) (gd (0 ≤ (w (s9.1 + 3)) ∧ (w (s9.1 + 3)) < sl) ((p_X11_member r1370.2 12000 (sc ((w (s9.1 + 1)))) (sc ((w (s9.1 + 2)))) (sc ((w (s9.1 + 3))))).bind fun r1374 => (p_X11_thrown r1374.2 12000).bind fun r1375 => if r1375 = r1370.1 then if r1370.1 = 0 then gd (aok 15000 0) (if (lcp (rd r1374.2 15000 0) r1374.1) = 0 then some (.inl ((w (s9.1 + 6)), r1374.2)) else some (.inr (.inl (0, r1374.2)))) else some (.inl ((w (s9.1 + 6)), r1374.2)) else some (.inr (.inl (0, r1374.2)))))))))
def c_L_37 (s9 : Int × Mm) (sl : Int) (sc : Int → Int) : Option ((Int × Mm) ⊕ ((Int × Mm) ⊕ (Mm))) := gd (0 ≤ (w (s9.1 + 1)) ∧ (w (s9.1 + 1)) < sl) (gd (0 ≤ (w (s9.1 + 2)) ∧ (w (s9.1 + 2)) < sl) (gd (0 ≤ (w (s9.1 + 3)) ∧ (w (s9.1 + 3)) < sl) (gd (0 ≤ (w (s9.1 + 4)) ∧ (w (s9.1 + 4)) < sl) ((p_L_hand s9.2 11000 (sc ((w (s9.1 + 1)))) (sc ((w (s9.1 + 2)))) (sc ((w (s9.1 + 3)))) (sc ((w (s9.1 + 4)))) 15000).bind fun r1389 => gd (0 ≤ (w (s9.1 + 1)) ∧ (w (s9.1 + 1)) < sl) (gd (0 ≤ (w (s9.1 + 2)) ∧ (w (s9.1 + 2)) < sl) (gd (0 ≤ (w (s9.1 + 3)) ∧ (w (s9.1 + 3)) < sl) (gd (0 ≤ (w (s9.1 + 4)) ∧ (w (s9.1 + 4)) < sl) ((p_X11_hand r1389.2 12000 (sc ((w (s9.1 + 1)))) (sc ((w (s9.1 + 2)))) (sc ((w (s9.1 + 3)))) (sc ((w (s9.1 + 4))))).bind fun r1394 => (p_X11_thrown r1394.2 12000).bind fun r1395 => if r1395 = r1389.1 then if r1389.1 = 0 then gd (aok 15000 0) (if (lcp (rd r1394.2 15000 0) r1394.1) = 0 then some (.inl ((w (s9.1 + 6)), r1394.2)) else some (.inr (.inl (0, r1394.2)))) else some (.inl ((w (s9.1 + 6)), r1394.2)) else some (.inr (.inl (0, r1394.2)))))))))))
def c_L_38 (s9 : Int × Mm) (sl : Int) (sc : Int → Int) : Option ((Int × Mm) ⊕ ((Int × Mm) ⊕ (Mm))) := gd (0 ≤ (w (s9.1 + 1)) ∧ (w (s9.1 + 1)) < sl) (gd (0 ≤ (w (s9.1 + 2)) ∧ (w (s9.1 + 2)) < sl) (gd (0 ≤ (w (s9.1 + 3)) ∧ (w (s9.1 + 3)) < sl) ((p_L_waits s9.2 11000 (sc ((w (s9.1 + 1)))) (sc ((w (s9.1 + 2)))) (sc ((w (s9.1 + 3)))) 15000).bind fun r1408 => gd (0 ≤ (w (s9.1 + 1)) ∧ (w (s9.1 + 1)) < sl) (gd (0 ≤ (w (s9.1 + 2)) ∧ (w (s9.1 + 2)) < sl) (gd (0 ≤ (w (s9.1 + 3)) ∧ (w (s9.1 + 3)) < sl) ((p_X11_waits r1408.2 12000 (sc ((w (s9.1 + 1)))) (sc ((w (s9.1 + 2)))) (sc ((w (s9.1 + 3))))).bind fun r1412 => (p_X11_thrown r1412.2 12000).bind fun r1413 => if r1413 = r1408.1 then if r1408.1 = 0 then gd (aok 15000 0) (if (lcp (rd r1412.2 15000 0) r1412.1) = 0 then some (.inl ((w (s9.1 + 6)), r1412.2)) else some (.inr (.inl (0, r1412.2)))) else some (.inl ((w (s9.1 + 6)), r1412.2)) else some (.inr (.inl (0, r1412.2)))))))))
def c_L_39 (s9 : Int × Mm) (sl : Int) (sc : Int → Int) : Option ((Int × Mm) ⊕ ((Int × Mm) ⊕ (Mm))) := gd (0 ≤ (w (s9.1 + 1)) ∧ (w (s9.1 + 1)) < sl) (gd (0 ≤ (w (s9.1 + 2)) ∧ (w (s9.1 + 2)) < sl) ((p_L_dead s9.2 11000 (sc ((w (s9.1 + 1)))) (sc ((w (s9.1 + 2)))) 15000).bind fun r1425 => gd (0 ≤ (w (s9.1 + 1)) ∧ (w (s9.1 + 1)) < sl) (gd (0 ≤ (w (s9.1 + 2)) ∧ (w (s9.1 + 2)) < sl) ((p_X11_dead r1425.2 12000 (sc ((w (s9.1 + 1)))) (sc ((w (s9.1 + 2))))).bind fun r1428 => (p_X11_thrown r1428.2 12000).bind fun r1429 => if r1429 = r1425.1 then if r1425.1 = 0 then gd (aok 15000 0) (if (lcp (rd r1428.2 15000 0) r1428.1) = 0 then some (.inl ((w (s9.1 + 6)), r1428.2)) else some (.inr (.inl (0, r1428.2)))) else some (.inl ((w (s9.1 + 6)), r1428.2)) else some (.inr (.inl (0, r1428.2)))))))
def c_L_40 (s9 : Int × Mm) (sl : Int) (sc : Int → Int) : Option ((Int × Mm) ⊕ ((Int × Mm) ⊕ (Mm))) := gd (0 ≤ (w (s9.1 + 1)) ∧ (w (s9.1 + 1)) < sl) (gd (0 ≤ (w (s9.1 + 2)) ∧ (w (s9.1 + 2)) < sl) ((p_L_seen s9.2 11000 (sc ((w (s9.1 + 1)))) (sc ((w (s9.1 + 2)))) 15000).bind fun r1441 => gd (0 ≤ (w (s9.1 + 1)) ∧ (w (s9.1 + 1)) < sl) (gd (0 ≤ (w (s9.1 + 2)) ∧ (w (s9.1 + 2)) < sl) ((p_X11_seen r1441.2 12000 (sc ((w (s9.1 + 1)))) (sc ((w (s9.1 + 2))))).bind fun r1444 => (p_X11_thrown r1444.2 12000).bind fun r1445 => if r1445 = r1441.1 then if r1441.1 = 0 then gd (aok 15000 0) (if (lcp (rd r1444.2 15000 0) r1444.1) = 0 then some (.inl ((w (s9.1 + 6)), r1444.2)) else some (.inr (.inl (0, r1444.2)))) else some (.inl ((w (s9.1 + 6)), r1444.2)) else some (.inr (.inl (0, r1444.2)))))))
def c_L_41 (s9 : Int × Mm) (sl : Int) (sc : Int → Int) : Option ((Int × Mm) ⊕ ((Int × Mm) ⊕ (Mm))) := gd (0 ≤ (w (s9.1 + 1)) ∧ (w (s9.1 + 1)) < sl) ((p_L_count s9.2 11000 (sc ((w (s9.1 + 1)))) 15000).bind fun r1456 => gd (0 ≤ (w (s9.1 + 1)) ∧ (w (s9.1 + 1)) < sl) ((p_X11_count r1456.2 12000 (sc ((w (s9.1 + 1))))).bind fun r1458 => (p_X11_thrown r1458.2 12000).bind fun r1459 => if r1459 = r1456.1 then if r1456.1 = 0 then gd (aok 15000 0) (if (lcp (rd r1458.2 15000 0) r1458.1) = 0 then some (.inl ((w (s9.1 + 6)), r1458.2)) else some (.inr (.inl (0, r1458.2)))) else some (.inl ((w (s9.1 + 6)), r1458.2)) else some (.inr (.inl (0, r1458.2)))))
def c_L_42 (s9 : Int × Mm) (sl : Int) (sc : Int → Int) : Option ((Int × Mm) ⊕ ((Int × Mm) ⊕ (Mm))) := gd (0 ≤ (w (s9.1 + 1)) ∧ (w (s9.1 + 1)) < sl) (gd (0 ≤ (w (s9.1 + 2)) ∧ (w (s9.1 + 2)) < sl) ((p_L_ofGroup s9.2 11000 (sc ((w (s9.1 + 1)))) (sc ((w (s9.1 + 2)))) 15000).bind fun r1471 => gd (0 ≤ (w (s9.1 + 1)) ∧ (w (s9.1 + 1)) < sl) (gd (0 ≤ (w (s9.1 + 2)) ∧ (w (s9.1 + 2)) < sl) ((p_X11_ofGroup r1471.2 12000 (sc ((w (s9.1 + 1)))) (sc ((w (s9.1 + 2))))).bind fun r1474 => (p_X11_thrown r1474.2 12000).bind fun r1475 => if r1475 = r1471.1 then if r1471.1 = 0 then gd (aok 15000 0) (if (lcp (rd r1474.2 15000 0) r1474.1) = 0 then some (.inl ((w (s9.1 + 6)), r1474.2)) else some (.inr (.inl (0, r1474.2)))) else some (.inl ((w (s9.1 + 6)), r1474.2)) else some (.inr (.inl (0, r1474.2)))))))
def c_L_43 (s9 : Int × Mm) (sl : Int) (sc : Int → Int) : Option ((Int × Mm) ⊕ ((Int × Mm) ⊕ (Mm))) := gd (0 ≤ (w (s9.1 + 1)) ∧ (w (s9.1 + 1)) < sl) ((p_L_audit s9.2 11000 (sc ((w (s9.1 + 1)))) 15000).bind fun r1486 => gd (0 ≤ (w (s9.1 + 1)) ∧ (w (s9.1 + 1)) < sl) ((p_X11_audit r1486.2 12000 (sc ((w (s9.1 + 1))))).bind fun r1488 => (p_X11_thrown r1488.2 12000).bind fun r1489 => if r1489 = r1486.1 then if r1486.1 = 0 then gd (aok 15000 0) ((if r1488.1 = 0 then some (0) else some (1) : Option (Int)).bind fun (s1495 : Int) => if (lcp (rd r1488.2 15000 0) s1495) = 0 then some (.inl ((w (s9.1 + 6)), r1488.2)) else some (.inr (.inl (0, r1488.2)))) else some (.inl ((w (s9.1 + 6)), r1488.2)) else some (.inr (.inl (0, r1488.2)))))
def c_L_44 (s9 : Int × Mm) : Option ((Int × Mm) ⊕ ((Int × Mm) ⊕ (Mm))) := (p_X10_digest s9.2 11000).bind fun r1505 => (p_X11_digest s9.2 12000).bind fun r1506 => if r1505 = r1506.1 then some (.inl ((w (s9.1 + 6)), r1506.2)) else some (.inr (.inl (0, r1506.2)))
def b_L_law_23 (sl : Int) (sc : Int → Int) (s9 : Int × Mm) : Option ((Int × Mm) ⊕ ((Int × Mm) ⊕ (Mm))) := if (w ((w sl) - 6)) < s9.1 then some (.inr (.inr s9.2)) else gd (0 ≤ s9.1 ∧ s9.1 < sl) (if (ian (sc (s9.1)) 63) = 0 then c_L_0 s9 sl sc else if (ian (sc (s9.1)) 63) = 1 then c_L_1 s9 sl sc else if (ian (sc (s9.1)) 63) = 2 then c_L_2 s9 sl sc else if (ian (sc (s9.1)) 63) = 3 then c_L_3 s9 sl sc else if (ian (sc (s9.1)) 63) = 4 then c_L_4 s9 sl sc else if (ian (sc (s9.1)) 63) = 5 then c_L_5 s9 sl sc else if (ian (sc (s9.1)) 63) = 6 then c_L_6 s9 sl sc else if (ian (sc (s9.1)) 63) = 7 then c_L_7 s9 sl sc else if (ian (sc (s9.1)) 63) = 8 then c_L_8 s9 else if (ian (sc (s9.1)) 63) = 9 then c_L_9 s9 sl sc else if (ian (sc (s9.1)) 63) = 10 then c_L_10 s9 sl sc else if (ian (sc (s9.1)) 63) = 11 then c_L_11 s9 sl sc else if (ian (sc (s9.1)) 63) = 12 then c_L_12 s9 sl sc else if (ian (sc (s9.1)) 63) = 13 then c_L_13 s9 sl sc else if (ian (sc (s9.1)) 63) = 14 then c_L_14 s9 sl sc else if (ian (sc (s9.1)) 63) = 15 then c_L_15 s9 sl sc else if (ian (sc (s9.1)) 63) = 16 then c_L_16 s9 sl sc else if (ian (sc (s9.1)) 63) = 17 then c_L_17 s9 sl sc else if (ian (sc (s9.1)) 63) = 18 then c_L_18 s9 sl sc else if (ian (sc (s9.1)) 63) = 19 then c_L_19 s9 sl sc else if (ian (sc (s9.1)) 63) = 20 then c_L_20 s9 sl sc else if (ian (sc (s9.1)) 63) = 21 then c_L_21 s9 sl sc else if (ian (sc (s9.1)) 63) = 22 then c_L_22 s9 sl sc else if (ian (sc (s9.1)) 63) = 23 then c_L_23 s9 sl sc else if (ian (sc (s9.1)) 63) = 24 then c_L_24 s9 sl sc else if (ian (sc (s9.1)) 63) = 25 then c_L_25 s9 sl sc else if (ian (sc (s9.1)) 63) = 26 then c_L_26 s9 sl sc else if (ian (sc (s9.1)) 63) = 27 then c_L_27 s9 sl sc else if (ian (sc (s9.1)) 63) = 28 then c_L_28 s9 sl sc else if (ian (sc (s9.1)) 63) = 29 then c_L_29 s9 sl sc else if (ian (sc (s9.1)) 63) = 30 then c_L_30 s9 sl sc else if (ian (sc (s9.1)) 63) = 31 then c_L_31 s9 sl sc else if (ian (sc (s9.1)) 63) = 32 then c_L_32 s9 sl sc else if (ian (sc (s9.1)) 63) = 33 then c_L_33 s9 sl sc else if (ian (sc (s9.1)) 63) = 34 then c_L_34 s9 sl sc else if (ian (sc (s9.1)) 63) = 35 then c_L_35 s9 sl sc else if (ian (sc (s9.1)) 63) = 36 then c_L_36 s9 sl sc else if (ian (sc (s9.1)) 63) = 37 then c_L_37 s9 sl sc else if (ian (sc (s9.1)) 63) = 38 then c_L_38 s9 sl sc else if (ian (sc (s9.1)) 63) = 39 then c_L_39 s9 sl sc else if (ian (sc (s9.1)) 63) = 40 then c_L_40 s9 sl sc else if (ian (sc (s9.1)) 63) = 41 then c_L_41 s9 sl sc else if (ian (sc (s9.1)) 63) = 42 then c_L_42 s9 sl sc else if (ian (sc (s9.1)) 63) = 43 then c_L_43 s9 sl sc else if (ian (sc (s9.1)) 63) = 44 then c_L_44 s9 else some (.inl ((w (s9.1 + 6)), s9.2)))
def p_L_law (M : Mm) (sl : Int) (sc : Int → Int) : Option (Int × Mm) := (alo M 11 11000 16).bind fun M1 => (p_X10_init M1 11000).bind fun M3 => (alo M3 12 12000 68).bind fun M4 => (p_X11_init M4 12000).bind fun M6 => (ala M6 15 15000 1).bind fun M7 => (lp (b_L_law_23 sl sc) 1000 (0, M7)).bind (Sum.elim some fun (t10 : Mm) => some (1, t10))
set_option maxRecDepth 100000 in
set_option maxHeartbeats 4000000 in
theorem cx_L_0 {D : Dt} {kp : Nat} {kk763 : (Int × Mm) ⊕ ((Int × Mm) ⊕ Mm) → Option (Int × Mm)} (hx762 : ∀ y : Int × Mm, kk763 (.inr (.inl y)) = some y) (hc760 : ∀ s9 : Int × Mm, XE D kp mu_L_law (EW 0) 23 [(0, (100, (-1))), (1, (14, 11000)), (2, (15, 12000)), (3, (18, 15000)), (4, (0, s9.1))] [] s9.2 (kk763 (.inl s9))) (s9 : Int × Mm) : XE D (kp + 1) mu_L_law (EW 0) 236 [(0, (100, (-1))), (1, (14, 11000)), (2, (15, 12000)), (3, (18, 15000)), (4, (0, s9.1))] [] s9.2 ((c_L_0 s9 (D.2.2.2.2.2.1 : Int) (fun i : Int => (D.2.2.2.2.2.2 i.toNat).toInt)).bind kk763) := by
  have h2 : (11000 : Int) ≠ 0 := by decide
  have h5 : (12000 : Int) ≠ 0 := by decide
  have h8 : (15000 : Int) ≠ 0 := by decide
  unfold c_L_0
  refine XE.go (st_aload_n (j := 1) (i := 1) (pc' := 237) (by decide +kernel) rfl rfl (by decide) rfl) ?_
  refine XE.go (st_aload_n (j := 0) (i := 0) (pc' := 238) (by decide +kernel) rfl rfl (by decide) rfl) ?_
  refine XE.go (st_iload (j := 4) (pc' := 240) (by decide +kernel) rfl rfl) ?_
  refine XE.go (st_iconst (n := 1) (pc' := 241) (by decide +kernel) (w_eq (by decide) (by decide)) rfl) ?_
  refine XE.go (st_iadd (pc' := 242) (by decide +kernel) rfl) ?_
  refine XE.gdb (fun g769 => ?_)
  refine XE.go (st_sld (pc' := 243) (by decide +kernel) rfl g769.1 g769.2) ?_
  refine XE.go (st_aload_n (j := 0) (i := 0) (pc' := 244) (by decide +kernel) rfl rfl (by decide) rfl) ?_
  refine XE.go (st_iload (j := 4) (pc' := 246) (by decide +kernel) rfl rfl) ?_
  refine XE.go (st_iconst (n := 2) (pc' := 247) (by decide +kernel) (w_eq (by decide) (by decide)) rfl) ?_
  refine XE.go (st_iadd (pc' := 248) (by decide +kernel) rfl) ?_
  refine XE.gdb (fun g770 => ?_)
  refine XE.go (st_sld (pc' := 249) (by decide +kernel) rfl g770.1 g770.2) ?_
  refine XE.go (st_aload_n (j := 0) (i := 0) (pc' := 250) (by decide +kernel) rfl rfl (by decide) rfl) ?_
  refine XE.go (st_iload (j := 4) (pc' := 252) (by decide +kernel) rfl rfl) ?_
  refine XE.go (st_iconst (n := 3) (pc' := 253) (by decide +kernel) (w_eq (by decide) (by decide)) rfl) ?_
  refine XE.go (st_iadd (pc' := 254) (by decide +kernel) rfl) ?_
  refine XE.gdb (fun g771 => ?_)
  refine XE.go (st_sld (pc' := 255) (by decide +kernel) rfl g771.1 g771.2) ?_
  refine XE.asc ?_
  refine XE.join (pcJ := 263) (LJ := fun (s772 : Int) => [(0, (100, (-1))), (1, (14, 11000)), (2, (15, 12000)), (3, (18, 15000)), (4, (0, s9.1))]) (sJ := fun (s772 : Int) => [(0, s772), (0, ((fun i : Int => (D.2.2.2.2.2.2 i.toNat).toInt) ((w (s9.1 + 2))))), (0, ((fun i : Int => (D.2.2.2.2.2.2 i.toNat).toInt) ((w (s9.1 + 1))))), (14, 11000)]) (MJ := fun (s772 : Int) => s9.2) (fun kk775 hk773 => ?_) (fun s772 => ?_)
  · refine XE.bite (fun h776 => ?_) (fun h777 => ?_)
    · refine XE.go (st_if_eq_t (off := 7) (pc' := 262) (by decide +kernel) (by decide) h776) ?_
      refine XE.go (st_iconst (n := 0) (pc' := 263) (by decide +kernel) (w_eq (by decide) (by decide)) rfl) ?_
      exact hk773 0
    · refine XE.go (st_if_eq_f (off := 7) (pc' := 258) (by decide +kernel) 262 (by decide) rfl h777) ?_
      refine XE.go (st_iconst (n := 1) (pc' := 259) (by decide +kernel) (w_eq (by decide) (by decide)) rfl) ?_
      refine XE.go (st_goto (off := 4) (pc' := 263) (by decide +kernel) (by decide)) ?_
      exact hk773 1
  · refine XE.go (st_aload_n (j := 3) (i := 3) (pc' := 264) (by decide +kernel) rfl rfl (by decide) rfl) ?_
    refine XE.asc ?_
    refine XE.cW1 (pc' := 267) (st := []) (fun r hr => ct_L_topic r hr) (fun r hr => run_S (st := []) (by decide +kernel) co_L_law_159 (ct_L_topic r hr) rfl rfl (Nat.le_of_ble_eq_true rfl)) rfl rfl (fun r778 => ?_)
    refine XE.go (st_istore (j := 5) (pc' := 269) (by decide +kernel)  rfl (by decide) rfl rfl) ?_
    refine XE.go (st_aload_n (j := 2) (i := 2) (pc' := 270) (by decide +kernel) rfl rfl (by decide) rfl) ?_
    refine XE.go (st_aload_n (j := 0) (i := 0) (pc' := 271) (by decide +kernel) rfl rfl (by decide) rfl) ?_
    refine XE.go (st_iload (j := 4) (pc' := 273) (by decide +kernel) rfl rfl) ?_
    refine XE.go (st_iconst (n := 1) (pc' := 274) (by decide +kernel) (w_eq (by decide) (by decide)) rfl) ?_
    refine XE.go (st_iadd (pc' := 275) (by decide +kernel) rfl) ?_
    refine XE.gdb (fun g779 => ?_)
    refine XE.go (st_sld (pc' := 276) (by decide +kernel) rfl g779.1 g779.2) ?_
    refine XE.go (st_aload_n (j := 0) (i := 0) (pc' := 277) (by decide +kernel) rfl rfl (by decide) rfl) ?_
    refine XE.go (st_iload (j := 4) (pc' := 279) (by decide +kernel) rfl rfl) ?_
    refine XE.go (st_iconst (n := 2) (pc' := 280) (by decide +kernel) (w_eq (by decide) (by decide)) rfl) ?_
    refine XE.go (st_iadd (pc' := 281) (by decide +kernel) rfl) ?_
    refine XE.gdb (fun g780 => ?_)
    refine XE.go (st_sld (pc' := 282) (by decide +kernel) rfl g780.1 g780.2) ?_
    refine XE.go (st_aload_n (j := 0) (i := 0) (pc' := 283) (by decide +kernel) rfl rfl (by decide) rfl) ?_
    refine XE.go (st_iload (j := 4) (pc' := 285) (by decide +kernel) rfl rfl) ?_
    refine XE.go (st_iconst (n := 3) (pc' := 286) (by decide +kernel) (w_eq (by decide) (by decide)) rfl) ?_
    refine XE.go (st_iadd (pc' := 287) (by decide +kernel) rfl) ?_
    refine XE.gdb (fun g781 => ?_)
    refine XE.go (st_sld (pc' := 288) (by decide +kernel) rfl g781.1 g781.2) ?_
    refine XE.asc ?_
    refine XE.join (pcJ := 296) (LJ := fun (s782 : Int) => [(0, (100, (-1))), (1, (14, 11000)), (2, (15, 12000)), (3, (18, 15000)), (4, (0, s9.1)), (5, (0, r778.1))]) (sJ := fun (s782 : Int) => [(0, s782), (0, ((fun i : Int => (D.2.2.2.2.2.2 i.toNat).toInt) ((w (s9.1 + 2))))), (0, ((fun i : Int => (D.2.2.2.2.2.2 i.toNat).toInt) ((w (s9.1 + 1))))), (15, 12000)]) (MJ := fun (s782 : Int) => r778.2) (fun kk785 hk783 => ?_) (fun s782 => ?_)
    · refine XE.bite (fun h786 => ?_) (fun h787 => ?_)
      · refine XE.go (st_if_eq_t (off := 7) (pc' := 295) (by decide +kernel) (by decide) h786) ?_
        refine XE.go (st_iconst (n := 0) (pc' := 296) (by decide +kernel) (w_eq (by decide) (by decide)) rfl) ?_
        exact XE.pick [1, 2, 3, 4, 5, 0] rfl (hk783 0)
      · refine XE.go (st_if_eq_f (off := 7) (pc' := 291) (by decide +kernel) 295 (by decide) rfl h787) ?_
        refine XE.go (st_iconst (n := 1) (pc' := 292) (by decide +kernel) (w_eq (by decide) (by decide)) rfl) ?_
        refine XE.go (st_goto (off := 4) (pc' := 296) (by decide +kernel) (by decide)) ?_
        exact XE.pick [1, 2, 3, 4, 5, 0] rfl (hk783 1)
    · refine XE.asc ?_
      refine XE.cW (pc' := 299) (st := []) (fun r hr => ct_X11_topic h5 r hr) (fun r hr => run_V (st := []) (by decide +kernel) co_L_law_164 (ct_X11_topic h5 r hr) rfl h5 rfl rfl (Nat.le_of_ble_eq_true rfl)) rfl rfl (fun r788 => ?_)
      refine XE.go (st_istore (j := 6) (pc' := 301) (by decide +kernel)  rfl (by decide) rfl rfl) ?_
      refine XE.go (st_aload_n (j := 2) (i := 2) (pc' := 302) (by decide +kernel) rfl rfl (by decide) rfl) ?_
      refine XE.asc ?_
      refine XE.cP (pc' := 305) (st := []) (fun r hr => ct_X11_thrown h5 r hr) (fun r hr => run_V (st := []) (by decide +kernel) co_L_law_165 (ct_X11_thrown h5 r hr) rfl h5 rfl rfl (Nat.le_of_ble_eq_true rfl)) rfl rfl (fun r789 => ?_)
      refine XE.go (st_iload (j := 5) (pc' := 307) (by decide +kernel) rfl rfl) ?_
      refine XE.bite (fun h790 => ?_) (fun h791 => ?_)
      · refine XE.go (st_icmp_eq_t (off := 5) (pc' := 312) (by decide +kernel) (by decide) h790) ?_
        refine XE.go (st_iload (j := 5) (pc' := 314) (by decide +kernel) rfl rfl) ?_
        refine XE.bite (fun h792 => ?_) (fun h793 => ?_)
        · refine XE.go (st_if_ne_f (off := 15) (pc' := 317) (by decide +kernel) 329 (by decide) rfl (not_not_intro h792)) ?_
          refine XE.go (st_aload_n (j := 3) (i := 3) (pc' := 318) (by decide +kernel) rfl rfl (by decide) rfl) ?_
          refine XE.go (st_iconst (n := 0) (pc' := 319) (by decide +kernel) (w_eq (by decide) (by decide)) rfl) ?_
          refine XE.gdb (fun g794 => ?_)
          refine XE.go (st_ald (k := 15) (tp := 2) (pc' := 320) (by decide +kernel) rfl ak_15 rfl (by decide) rfl (Or.inr (Or.inr (Or.inl ⟨rfl, rfl⟩))) g794.1 g794.2.1 g794.2.2) ?_
          refine XE.go (st_iload (j := 6) (pc' := 322) (by decide +kernel) rfl rfl) ?_
          refine XE.go (st_i2l (pc' := 323) (by decide +kernel) rfl) ?_
          refine XE.go (st_lcmp (pc' := 324) (by decide +kernel) rfl) ?_
          refine XE.bite (fun h795 => ?_) (fun h796 => ?_)
          · refine XE.go (st_if_eq_t (off := 5) (pc' := 329) (by decide +kernel) (by decide) h795) ?_
            refine XE.go (st_goto (off := 3019) (pc' := 3348) (by decide +kernel) (by decide)) ?_
            refine XE.go (st_iinc (j := 4) (n := 6) (pc' := 3351) (by decide +kernel) rfl rfl (by decide) rfl rfl) ?_
            refine XE.go (st_goto (off := (-3328)) (pc' := 23) (by decide +kernel) (by decide)) ?_
            exact XE.pick [2, 3, 4, 5, 0] rfl (hc760 ((w (s9.1 + 6)), r788.2))
          · refine XE.go (st_if_eq_f (off := 5) (pc' := 327) (by decide +kernel) 329 (by decide) rfl h796) ?_
            refine XE.go (st_iconst (n := 0) (pc' := 328) (by decide +kernel) (w_eq (by decide) (by decide)) rfl) ?_
            refine XE.cast (hx762 _) ?_
            exact XE.rt rfl (X_zret (by decide +kernel) rfl (by decide))
        · refine XE.go (st_if_ne_t (off := 15) (pc' := 329) (by decide +kernel) (by decide) h793) ?_
          refine XE.go (st_goto (off := 3019) (pc' := 3348) (by decide +kernel) (by decide)) ?_
          refine XE.go (st_iinc (j := 4) (n := 6) (pc' := 3351) (by decide +kernel) rfl rfl (by decide) rfl rfl) ?_
          refine XE.go (st_goto (off := (-3328)) (pc' := 23) (by decide +kernel) (by decide)) ?_
          exact XE.pick [2, 3, 4, 5, 0] rfl (hc760 ((w (s9.1 + 6)), r788.2))
      · refine XE.go (st_icmp_eq_f (off := 5) (pc' := 310) (by decide +kernel) 312 (by decide) rfl h791) ?_
        refine XE.go (st_iconst (n := 0) (pc' := 311) (by decide +kernel) (w_eq (by decide) (by decide)) rfl) ?_
        refine XE.cast (hx762 _) ?_
        exact XE.rt rfl (X_zret (by decide +kernel) rfl (by decide))

set_option maxRecDepth 100000 in
set_option maxHeartbeats 4000000 in
theorem cx_L_1 {D : Dt} {kp : Nat} {kk763 : (Int × Mm) ⊕ ((Int × Mm) ⊕ Mm) → Option (Int × Mm)} (hx762 : ∀ y : Int × Mm, kk763 (.inr (.inl y)) = some y) (hc760 : ∀ s9 : Int × Mm, XE D kp mu_L_law (EW 0) 23 [(0, (100, (-1))), (1, (14, 11000)), (2, (15, 12000)), (3, (18, 15000)), (4, (0, s9.1))] [] s9.2 (kk763 (.inl s9))) (s9 : Int × Mm) : XE D (kp + 1) mu_L_law (EW 0) 332 [(0, (100, (-1))), (1, (14, 11000)), (2, (15, 12000)), (3, (18, 15000)), (4, (0, s9.1))] [] s9.2 ((c_L_1 s9 (D.2.2.2.2.2.1 : Int) (fun i : Int => (D.2.2.2.2.2.2 i.toNat).toInt)).bind kk763) := by
  have h2 : (11000 : Int) ≠ 0 := by decide
  have h5 : (12000 : Int) ≠ 0 := by decide
  have h8 : (15000 : Int) ≠ 0 := by decide
  unfold c_L_1
  refine XE.go (st_aload_n (j := 1) (i := 1) (pc' := 333) (by decide +kernel) rfl rfl (by decide) rfl) ?_
  refine XE.go (st_aload_n (j := 0) (i := 0) (pc' := 334) (by decide +kernel) rfl rfl (by decide) rfl) ?_
  refine XE.go (st_iload (j := 4) (pc' := 336) (by decide +kernel) rfl rfl) ?_
  refine XE.go (st_iconst (n := 1) (pc' := 337) (by decide +kernel) (w_eq (by decide) (by decide)) rfl) ?_
  refine XE.go (st_iadd (pc' := 338) (by decide +kernel) rfl) ?_
  refine XE.gdb (fun g799 => ?_)
  refine XE.go (st_sld (pc' := 339) (by decide +kernel) rfl g799.1 g799.2) ?_
  refine XE.go (st_aload_n (j := 0) (i := 0) (pc' := 340) (by decide +kernel) rfl rfl (by decide) rfl) ?_
  refine XE.go (st_iload (j := 4) (pc' := 342) (by decide +kernel) rfl rfl) ?_
  refine XE.go (st_iconst (n := 2) (pc' := 343) (by decide +kernel) (w_eq (by decide) (by decide)) rfl) ?_
  refine XE.go (st_iadd (pc' := 344) (by decide +kernel) rfl) ?_
  refine XE.gdb (fun g800 => ?_)
  refine XE.go (st_sld (pc' := 345) (by decide +kernel) rfl g800.1 g800.2) ?_
  refine XE.go (st_aload_n (j := 0) (i := 0) (pc' := 346) (by decide +kernel) rfl rfl (by decide) rfl) ?_
  refine XE.go (st_iload (j := 4) (pc' := 348) (by decide +kernel) rfl rfl) ?_
  refine XE.go (st_iconst (n := 3) (pc' := 349) (by decide +kernel) (w_eq (by decide) (by decide)) rfl) ?_
  refine XE.go (st_iadd (pc' := 350) (by decide +kernel) rfl) ?_
  refine XE.gdb (fun g801 => ?_)
  refine XE.go (st_sld (pc' := 351) (by decide +kernel) rfl g801.1 g801.2) ?_
  refine XE.go (st_aload_n (j := 3) (i := 3) (pc' := 352) (by decide +kernel) rfl rfl (by decide) rfl) ?_
  refine XE.asc ?_
  refine XE.cW1 (pc' := 355) (st := []) (fun r hr => ct_L_retain r hr) (fun r hr => run_S (st := []) (by decide +kernel) co_L_law_168 (ct_L_retain r hr) rfl rfl (Nat.le_of_ble_eq_true rfl)) rfl rfl (fun r802 => ?_)
  refine XE.go (st_istore (j := 5) (pc' := 357) (by decide +kernel)  rfl (by decide) rfl rfl) ?_
  refine XE.go (st_aload_n (j := 2) (i := 2) (pc' := 358) (by decide +kernel) rfl rfl (by decide) rfl) ?_
  refine XE.go (st_aload_n (j := 0) (i := 0) (pc' := 359) (by decide +kernel) rfl rfl (by decide) rfl) ?_
  refine XE.go (st_iload (j := 4) (pc' := 361) (by decide +kernel) rfl rfl) ?_
  refine XE.go (st_iconst (n := 1) (pc' := 362) (by decide +kernel) (w_eq (by decide) (by decide)) rfl) ?_
  refine XE.go (st_iadd (pc' := 363) (by decide +kernel) rfl) ?_
  refine XE.gdb (fun g803 => ?_)
  refine XE.go (st_sld (pc' := 364) (by decide +kernel) rfl g803.1 g803.2) ?_
  refine XE.go (st_aload_n (j := 0) (i := 0) (pc' := 365) (by decide +kernel) rfl rfl (by decide) rfl) ?_
  refine XE.go (st_iload (j := 4) (pc' := 367) (by decide +kernel) rfl rfl) ?_
  refine XE.go (st_iconst (n := 2) (pc' := 368) (by decide +kernel) (w_eq (by decide) (by decide)) rfl) ?_
  refine XE.go (st_iadd (pc' := 369) (by decide +kernel) rfl) ?_
  refine XE.gdb (fun g804 => ?_)
  refine XE.go (st_sld (pc' := 370) (by decide +kernel) rfl g804.1 g804.2) ?_
  refine XE.go (st_aload_n (j := 0) (i := 0) (pc' := 371) (by decide +kernel) rfl rfl (by decide) rfl) ?_
  refine XE.go (st_iload (j := 4) (pc' := 373) (by decide +kernel) rfl rfl) ?_
  refine XE.go (st_iconst (n := 3) (pc' := 374) (by decide +kernel) (w_eq (by decide) (by decide)) rfl) ?_
  refine XE.go (st_iadd (pc' := 375) (by decide +kernel) rfl) ?_
  refine XE.gdb (fun g805 => ?_)
  refine XE.go (st_sld (pc' := 376) (by decide +kernel) rfl g805.1 g805.2) ?_
  refine XE.asc ?_
  refine XE.cW (pc' := 379) (st := []) (fun r hr => ct_X11_retain h5 r hr) (fun r hr => run_V (st := []) (by decide +kernel) co_L_law_171 (ct_X11_retain h5 r hr) rfl h5 rfl rfl (Nat.le_of_ble_eq_true rfl)) rfl rfl (fun r806 => ?_)
  refine XE.go (st_istore (j := 6) (pc' := 381) (by decide +kernel)  rfl (by decide) rfl rfl) ?_
  refine XE.go (st_aload_n (j := 2) (i := 2) (pc' := 382) (by decide +kernel) rfl rfl (by decide) rfl) ?_
  refine XE.asc ?_
  refine XE.cP (pc' := 385) (st := []) (fun r hr => ct_X11_thrown h5 r hr) (fun r hr => run_V (st := []) (by decide +kernel) co_L_law_165 (ct_X11_thrown h5 r hr) rfl h5 rfl rfl (Nat.le_of_ble_eq_true rfl)) rfl rfl (fun r807 => ?_)
  refine XE.go (st_iload (j := 5) (pc' := 387) (by decide +kernel) rfl rfl) ?_
  refine XE.bite (fun h808 => ?_) (fun h809 => ?_)
  · refine XE.go (st_icmp_eq_t (off := 5) (pc' := 392) (by decide +kernel) (by decide) h808) ?_
    refine XE.go (st_iload (j := 5) (pc' := 394) (by decide +kernel) rfl rfl) ?_
    refine XE.bite (fun h810 => ?_) (fun h811 => ?_)
    · refine XE.go (st_if_ne_f (off := 15) (pc' := 397) (by decide +kernel) 409 (by decide) rfl (not_not_intro h810)) ?_
      refine XE.go (st_aload_n (j := 3) (i := 3) (pc' := 398) (by decide +kernel) rfl rfl (by decide) rfl) ?_
      refine XE.go (st_iconst (n := 0) (pc' := 399) (by decide +kernel) (w_eq (by decide) (by decide)) rfl) ?_
      refine XE.gdb (fun g812 => ?_)
      refine XE.go (st_ald (k := 15) (tp := 2) (pc' := 400) (by decide +kernel) rfl ak_15 rfl (by decide) rfl (Or.inr (Or.inr (Or.inl ⟨rfl, rfl⟩))) g812.1 g812.2.1 g812.2.2) ?_
      refine XE.go (st_iload (j := 6) (pc' := 402) (by decide +kernel) rfl rfl) ?_
      refine XE.go (st_i2l (pc' := 403) (by decide +kernel) rfl) ?_
      refine XE.go (st_lcmp (pc' := 404) (by decide +kernel) rfl) ?_
      refine XE.bite (fun h813 => ?_) (fun h814 => ?_)
      · refine XE.go (st_if_eq_t (off := 5) (pc' := 409) (by decide +kernel) (by decide) h813) ?_
        refine XE.go (st_goto (off := 2939) (pc' := 3348) (by decide +kernel) (by decide)) ?_
        refine XE.go (st_iinc (j := 4) (n := 6) (pc' := 3351) (by decide +kernel) rfl rfl (by decide) rfl rfl) ?_
        refine XE.go (st_goto (off := (-3328)) (pc' := 23) (by decide +kernel) (by decide)) ?_
        exact XE.pick [3, 4, 5, 6, 0] rfl (hc760 ((w (s9.1 + 6)), r806.2))
      · refine XE.go (st_if_eq_f (off := 5) (pc' := 407) (by decide +kernel) 409 (by decide) rfl h814) ?_
        refine XE.go (st_iconst (n := 0) (pc' := 408) (by decide +kernel) (w_eq (by decide) (by decide)) rfl) ?_
        refine XE.cast (hx762 _) ?_
        exact XE.rt rfl (X_zret (by decide +kernel) rfl (by decide))
    · refine XE.go (st_if_ne_t (off := 15) (pc' := 409) (by decide +kernel) (by decide) h811) ?_
      refine XE.go (st_goto (off := 2939) (pc' := 3348) (by decide +kernel) (by decide)) ?_
      refine XE.go (st_iinc (j := 4) (n := 6) (pc' := 3351) (by decide +kernel) rfl rfl (by decide) rfl rfl) ?_
      refine XE.go (st_goto (off := (-3328)) (pc' := 23) (by decide +kernel) (by decide)) ?_
      exact XE.pick [3, 4, 5, 6, 0] rfl (hc760 ((w (s9.1 + 6)), r806.2))
  · refine XE.go (st_icmp_eq_f (off := 5) (pc' := 390) (by decide +kernel) 392 (by decide) rfl h809) ?_
    refine XE.go (st_iconst (n := 0) (pc' := 391) (by decide +kernel) (w_eq (by decide) (by decide)) rfl) ?_
    refine XE.cast (hx762 _) ?_
    exact XE.rt rfl (X_zret (by decide +kernel) rfl (by decide))

set_option maxRecDepth 100000 in
set_option maxHeartbeats 4000000 in
theorem cx_L_2 {D : Dt} {kp : Nat} {kk763 : (Int × Mm) ⊕ ((Int × Mm) ⊕ Mm) → Option (Int × Mm)} (hx762 : ∀ y : Int × Mm, kk763 (.inr (.inl y)) = some y) (hc760 : ∀ s9 : Int × Mm, XE D kp mu_L_law (EW 0) 23 [(0, (100, (-1))), (1, (14, 11000)), (2, (15, 12000)), (3, (18, 15000)), (4, (0, s9.1))] [] s9.2 (kk763 (.inl s9))) (s9 : Int × Mm) : XE D (kp + 1) mu_L_law (EW 0) 412 [(0, (100, (-1))), (1, (14, 11000)), (2, (15, 12000)), (3, (18, 15000)), (4, (0, s9.1))] [] s9.2 ((c_L_2 s9 (D.2.2.2.2.2.1 : Int) (fun i : Int => (D.2.2.2.2.2.2 i.toNat).toInt)).bind kk763) := by
  have h2 : (11000 : Int) ≠ 0 := by decide
  have h5 : (12000 : Int) ≠ 0 := by decide
  have h8 : (15000 : Int) ≠ 0 := by decide
  unfold c_L_2
  refine XE.go (st_aload_n (j := 1) (i := 1) (pc' := 413) (by decide +kernel) rfl rfl (by decide) rfl) ?_
  refine XE.go (st_aload_n (j := 0) (i := 0) (pc' := 414) (by decide +kernel) rfl rfl (by decide) rfl) ?_
  refine XE.go (st_iload (j := 4) (pc' := 416) (by decide +kernel) rfl rfl) ?_
  refine XE.go (st_iconst (n := 1) (pc' := 417) (by decide +kernel) (w_eq (by decide) (by decide)) rfl) ?_
  refine XE.go (st_iadd (pc' := 418) (by decide +kernel) rfl) ?_
  refine XE.gdb (fun g817 => ?_)
  refine XE.go (st_sld (pc' := 419) (by decide +kernel) rfl g817.1 g817.2) ?_
  refine XE.go (st_aload_n (j := 3) (i := 3) (pc' := 420) (by decide +kernel) rfl rfl (by decide) rfl) ?_
  refine XE.asc ?_
  refine XE.cW1 (pc' := 423) (st := []) (fun r hr => ct_L_compact r hr) (fun r hr => run_S (st := []) (by decide +kernel) co_L_law_172 (ct_L_compact r hr) rfl rfl (Nat.le_of_ble_eq_true rfl)) rfl rfl (fun r818 => ?_)
  refine XE.go (st_istore (j := 5) (pc' := 425) (by decide +kernel)  rfl (by decide) rfl rfl) ?_
  refine XE.go (st_aload_n (j := 2) (i := 2) (pc' := 426) (by decide +kernel) rfl rfl (by decide) rfl) ?_
  refine XE.go (st_aload_n (j := 0) (i := 0) (pc' := 427) (by decide +kernel) rfl rfl (by decide) rfl) ?_
  refine XE.go (st_iload (j := 4) (pc' := 429) (by decide +kernel) rfl rfl) ?_
  refine XE.go (st_iconst (n := 1) (pc' := 430) (by decide +kernel) (w_eq (by decide) (by decide)) rfl) ?_
  refine XE.go (st_iadd (pc' := 431) (by decide +kernel) rfl) ?_
  refine XE.gdb (fun g819 => ?_)
  refine XE.go (st_sld (pc' := 432) (by decide +kernel) rfl g819.1 g819.2) ?_
  refine XE.asc ?_
  refine XE.cW (pc' := 435) (st := []) (fun r hr => ct_X11_compact h5 r hr) (fun r hr => run_V (st := []) (by decide +kernel) co_L_law_175 (ct_X11_compact h5 r hr) rfl h5 rfl rfl (Nat.le_of_ble_eq_true rfl)) rfl rfl (fun r820 => ?_)
  refine XE.go (st_istore (j := 6) (pc' := 437) (by decide +kernel)  rfl (by decide) rfl rfl) ?_
  refine XE.go (st_aload_n (j := 2) (i := 2) (pc' := 438) (by decide +kernel) rfl rfl (by decide) rfl) ?_
  refine XE.asc ?_
  refine XE.cP (pc' := 441) (st := []) (fun r hr => ct_X11_thrown h5 r hr) (fun r hr => run_V (st := []) (by decide +kernel) co_L_law_165 (ct_X11_thrown h5 r hr) rfl h5 rfl rfl (Nat.le_of_ble_eq_true rfl)) rfl rfl (fun r821 => ?_)
  refine XE.go (st_iload (j := 5) (pc' := 443) (by decide +kernel) rfl rfl) ?_
  refine XE.bite (fun h822 => ?_) (fun h823 => ?_)
  · refine XE.go (st_icmp_eq_t (off := 5) (pc' := 448) (by decide +kernel) (by decide) h822) ?_
    refine XE.go (st_iload (j := 5) (pc' := 450) (by decide +kernel) rfl rfl) ?_
    refine XE.bite (fun h824 => ?_) (fun h825 => ?_)
    · refine XE.go (st_if_ne_f (off := 15) (pc' := 453) (by decide +kernel) 465 (by decide) rfl (not_not_intro h824)) ?_
      refine XE.go (st_aload_n (j := 3) (i := 3) (pc' := 454) (by decide +kernel) rfl rfl (by decide) rfl) ?_
      refine XE.go (st_iconst (n := 0) (pc' := 455) (by decide +kernel) (w_eq (by decide) (by decide)) rfl) ?_
      refine XE.gdb (fun g826 => ?_)
      refine XE.go (st_ald (k := 15) (tp := 2) (pc' := 456) (by decide +kernel) rfl ak_15 rfl (by decide) rfl (Or.inr (Or.inr (Or.inl ⟨rfl, rfl⟩))) g826.1 g826.2.1 g826.2.2) ?_
      refine XE.go (st_iload (j := 6) (pc' := 458) (by decide +kernel) rfl rfl) ?_
      refine XE.go (st_i2l (pc' := 459) (by decide +kernel) rfl) ?_
      refine XE.go (st_lcmp (pc' := 460) (by decide +kernel) rfl) ?_
      refine XE.bite (fun h827 => ?_) (fun h828 => ?_)
      · refine XE.go (st_if_eq_t (off := 5) (pc' := 465) (by decide +kernel) (by decide) h827) ?_
        refine XE.go (st_goto (off := 2883) (pc' := 3348) (by decide +kernel) (by decide)) ?_
        refine XE.go (st_iinc (j := 4) (n := 6) (pc' := 3351) (by decide +kernel) rfl rfl (by decide) rfl rfl) ?_
        refine XE.go (st_goto (off := (-3328)) (pc' := 23) (by decide +kernel) (by decide)) ?_
        exact XE.pick [3, 4, 5, 6, 0] rfl (hc760 ((w (s9.1 + 6)), r820.2))
      · refine XE.go (st_if_eq_f (off := 5) (pc' := 463) (by decide +kernel) 465 (by decide) rfl h828) ?_
        refine XE.go (st_iconst (n := 0) (pc' := 464) (by decide +kernel) (w_eq (by decide) (by decide)) rfl) ?_
        refine XE.cast (hx762 _) ?_
        exact XE.rt rfl (X_zret (by decide +kernel) rfl (by decide))
    · refine XE.go (st_if_ne_t (off := 15) (pc' := 465) (by decide +kernel) (by decide) h825) ?_
      refine XE.go (st_goto (off := 2883) (pc' := 3348) (by decide +kernel) (by decide)) ?_
      refine XE.go (st_iinc (j := 4) (n := 6) (pc' := 3351) (by decide +kernel) rfl rfl (by decide) rfl rfl) ?_
      refine XE.go (st_goto (off := (-3328)) (pc' := 23) (by decide +kernel) (by decide)) ?_
      exact XE.pick [3, 4, 5, 6, 0] rfl (hc760 ((w (s9.1 + 6)), r820.2))
  · refine XE.go (st_icmp_eq_f (off := 5) (pc' := 446) (by decide +kernel) 448 (by decide) rfl h823) ?_
    refine XE.go (st_iconst (n := 0) (pc' := 447) (by decide +kernel) (w_eq (by decide) (by decide)) rfl) ?_
    refine XE.cast (hx762 _) ?_
    exact XE.rt rfl (X_zret (by decide +kernel) rfl (by decide))

set_option maxRecDepth 100000 in
set_option maxHeartbeats 4000000 in
theorem cx_L_3 {D : Dt} {kp : Nat} {kk763 : (Int × Mm) ⊕ ((Int × Mm) ⊕ Mm) → Option (Int × Mm)} (hx762 : ∀ y : Int × Mm, kk763 (.inr (.inl y)) = some y) (hc760 : ∀ s9 : Int × Mm, XE D kp mu_L_law (EW 0) 23 [(0, (100, (-1))), (1, (14, 11000)), (2, (15, 12000)), (3, (18, 15000)), (4, (0, s9.1))] [] s9.2 (kk763 (.inl s9))) (s9 : Int × Mm) : XE D (kp + 1) mu_L_law (EW 0) 468 [(0, (100, (-1))), (1, (14, 11000)), (2, (15, 12000)), (3, (18, 15000)), (4, (0, s9.1))] [] s9.2 ((c_L_3 s9 (D.2.2.2.2.2.1 : Int) (fun i : Int => (D.2.2.2.2.2.2 i.toNat).toInt)).bind kk763) := by
  have h2 : (11000 : Int) ≠ 0 := by decide
  have h5 : (12000 : Int) ≠ 0 := by decide
  have h8 : (15000 : Int) ≠ 0 := by decide
  unfold c_L_3
  refine XE.go (st_aload_n (j := 1) (i := 1) (pc' := 469) (by decide +kernel) rfl rfl (by decide) rfl) ?_
  refine XE.go (st_aload_n (j := 0) (i := 0) (pc' := 470) (by decide +kernel) rfl rfl (by decide) rfl) ?_
  refine XE.go (st_iload (j := 4) (pc' := 472) (by decide +kernel) rfl rfl) ?_
  refine XE.go (st_iconst (n := 1) (pc' := 473) (by decide +kernel) (w_eq (by decide) (by decide)) rfl) ?_
  refine XE.go (st_iadd (pc' := 474) (by decide +kernel) rfl) ?_
  refine XE.gdb (fun g831 => ?_)
  refine XE.go (st_sld (pc' := 475) (by decide +kernel) rfl g831.1 g831.2) ?_
  refine XE.go (st_aload_n (j := 3) (i := 3) (pc' := 476) (by decide +kernel) rfl rfl (by decide) rfl) ?_
  refine XE.asc ?_
  refine XE.cW1 (pc' := 479) (st := []) (fun r hr => ct_L_fail r hr) (fun r hr => run_S (st := []) (by decide +kernel) co_L_law_176 (ct_L_fail r hr) rfl rfl (Nat.le_of_ble_eq_true rfl)) rfl rfl (fun r832 => ?_)
  refine XE.go (st_istore (j := 5) (pc' := 481) (by decide +kernel)  rfl (by decide) rfl rfl) ?_
  refine XE.go (st_aload_n (j := 2) (i := 2) (pc' := 482) (by decide +kernel) rfl rfl (by decide) rfl) ?_
  refine XE.go (st_aload_n (j := 0) (i := 0) (pc' := 483) (by decide +kernel) rfl rfl (by decide) rfl) ?_
  refine XE.go (st_iload (j := 4) (pc' := 485) (by decide +kernel) rfl rfl) ?_
  refine XE.go (st_iconst (n := 1) (pc' := 486) (by decide +kernel) (w_eq (by decide) (by decide)) rfl) ?_
  refine XE.go (st_iadd (pc' := 487) (by decide +kernel) rfl) ?_
  refine XE.gdb (fun g833 => ?_)
  refine XE.go (st_sld (pc' := 488) (by decide +kernel) rfl g833.1 g833.2) ?_
  refine XE.asc ?_
  refine XE.cW (pc' := 491) (st := []) (fun r hr => ct_X11_fail h5 r hr) (fun r hr => run_V (st := []) (by decide +kernel) co_L_law_178 (ct_X11_fail h5 r hr) rfl h5 rfl rfl (Nat.le_of_ble_eq_true rfl)) rfl rfl (fun r834 => ?_)
  refine XE.go (st_istore (j := 6) (pc' := 493) (by decide +kernel)  rfl (by decide) rfl rfl) ?_
  refine XE.go (st_aload_n (j := 2) (i := 2) (pc' := 494) (by decide +kernel) rfl rfl (by decide) rfl) ?_
  refine XE.asc ?_
  refine XE.cP (pc' := 497) (st := []) (fun r hr => ct_X11_thrown h5 r hr) (fun r hr => run_V (st := []) (by decide +kernel) co_L_law_165 (ct_X11_thrown h5 r hr) rfl h5 rfl rfl (Nat.le_of_ble_eq_true rfl)) rfl rfl (fun r835 => ?_)
  refine XE.go (st_iload (j := 5) (pc' := 499) (by decide +kernel) rfl rfl) ?_
  refine XE.bite (fun h836 => ?_) (fun h837 => ?_)
  · refine XE.go (st_icmp_eq_t (off := 5) (pc' := 504) (by decide +kernel) (by decide) h836) ?_
    refine XE.go (st_iload (j := 5) (pc' := 506) (by decide +kernel) rfl rfl) ?_
    refine XE.bite (fun h838 => ?_) (fun h839 => ?_)
    · refine XE.go (st_if_ne_f (off := 15) (pc' := 509) (by decide +kernel) 521 (by decide) rfl (not_not_intro h838)) ?_
      refine XE.go (st_aload_n (j := 3) (i := 3) (pc' := 510) (by decide +kernel) rfl rfl (by decide) rfl) ?_
      refine XE.go (st_iconst (n := 0) (pc' := 511) (by decide +kernel) (w_eq (by decide) (by decide)) rfl) ?_
      refine XE.gdb (fun g840 => ?_)
      refine XE.go (st_ald (k := 15) (tp := 2) (pc' := 512) (by decide +kernel) rfl ak_15 rfl (by decide) rfl (Or.inr (Or.inr (Or.inl ⟨rfl, rfl⟩))) g840.1 g840.2.1 g840.2.2) ?_
      refine XE.go (st_iload (j := 6) (pc' := 514) (by decide +kernel) rfl rfl) ?_
      refine XE.go (st_i2l (pc' := 515) (by decide +kernel) rfl) ?_
      refine XE.go (st_lcmp (pc' := 516) (by decide +kernel) rfl) ?_
      refine XE.bite (fun h841 => ?_) (fun h842 => ?_)
      · refine XE.go (st_if_eq_t (off := 5) (pc' := 521) (by decide +kernel) (by decide) h841) ?_
        refine XE.go (st_goto (off := 2827) (pc' := 3348) (by decide +kernel) (by decide)) ?_
        refine XE.go (st_iinc (j := 4) (n := 6) (pc' := 3351) (by decide +kernel) rfl rfl (by decide) rfl rfl) ?_
        refine XE.go (st_goto (off := (-3328)) (pc' := 23) (by decide +kernel) (by decide)) ?_
        exact XE.pick [3, 4, 5, 6, 0] rfl (hc760 ((w (s9.1 + 6)), r834.2))
      · refine XE.go (st_if_eq_f (off := 5) (pc' := 519) (by decide +kernel) 521 (by decide) rfl h842) ?_
        refine XE.go (st_iconst (n := 0) (pc' := 520) (by decide +kernel) (w_eq (by decide) (by decide)) rfl) ?_
        refine XE.cast (hx762 _) ?_
        exact XE.rt rfl (X_zret (by decide +kernel) rfl (by decide))
    · refine XE.go (st_if_ne_t (off := 15) (pc' := 521) (by decide +kernel) (by decide) h839) ?_
      refine XE.go (st_goto (off := 2827) (pc' := 3348) (by decide +kernel) (by decide)) ?_
      refine XE.go (st_iinc (j := 4) (n := 6) (pc' := 3351) (by decide +kernel) rfl rfl (by decide) rfl rfl) ?_
      refine XE.go (st_goto (off := (-3328)) (pc' := 23) (by decide +kernel) (by decide)) ?_
      exact XE.pick [3, 4, 5, 6, 0] rfl (hc760 ((w (s9.1 + 6)), r834.2))
  · refine XE.go (st_icmp_eq_f (off := 5) (pc' := 502) (by decide +kernel) 504 (by decide) rfl h837) ?_
    refine XE.go (st_iconst (n := 0) (pc' := 503) (by decide +kernel) (w_eq (by decide) (by decide)) rfl) ?_
    refine XE.cast (hx762 _) ?_
    exact XE.rt rfl (X_zret (by decide +kernel) rfl (by decide))

set_option maxRecDepth 100000 in
set_option maxHeartbeats 4000000 in
theorem cx_L_4 {D : Dt} {kp : Nat} {kk763 : (Int × Mm) ⊕ ((Int × Mm) ⊕ Mm) → Option (Int × Mm)} (hx762 : ∀ y : Int × Mm, kk763 (.inr (.inl y)) = some y) (hc760 : ∀ s9 : Int × Mm, XE D kp mu_L_law (EW 0) 23 [(0, (100, (-1))), (1, (14, 11000)), (2, (15, 12000)), (3, (18, 15000)), (4, (0, s9.1))] [] s9.2 (kk763 (.inl s9))) (s9 : Int × Mm) : XE D (kp + 1) mu_L_law (EW 0) 524 [(0, (100, (-1))), (1, (14, 11000)), (2, (15, 12000)), (3, (18, 15000)), (4, (0, s9.1))] [] s9.2 ((c_L_4 s9 (D.2.2.2.2.2.1 : Int) (fun i : Int => (D.2.2.2.2.2.2 i.toNat).toInt)).bind kk763) := by
  have h2 : (11000 : Int) ≠ 0 := by decide
  have h5 : (12000 : Int) ≠ 0 := by decide
  have h8 : (15000 : Int) ≠ 0 := by decide
  unfold c_L_4
  refine XE.go (st_aload_n (j := 1) (i := 1) (pc' := 525) (by decide +kernel) rfl rfl (by decide) rfl) ?_
  refine XE.go (st_aload_n (j := 0) (i := 0) (pc' := 526) (by decide +kernel) rfl rfl (by decide) rfl) ?_
  refine XE.go (st_iload (j := 4) (pc' := 528) (by decide +kernel) rfl rfl) ?_
  refine XE.go (st_iconst (n := 1) (pc' := 529) (by decide +kernel) (w_eq (by decide) (by decide)) rfl) ?_
  refine XE.go (st_iadd (pc' := 530) (by decide +kernel) rfl) ?_
  refine XE.gdb (fun g845 => ?_)
  refine XE.go (st_sld (pc' := 531) (by decide +kernel) rfl g845.1 g845.2) ?_
  refine XE.go (st_aload_n (j := 3) (i := 3) (pc' := 532) (by decide +kernel) rfl rfl (by decide) rfl) ?_
  refine XE.asc ?_
  refine XE.cW1 (pc' := 535) (st := []) (fun r hr => ct_L_restore r hr) (fun r hr => run_S (st := []) (by decide +kernel) co_L_law_179 (ct_L_restore r hr) rfl rfl (Nat.le_of_ble_eq_true rfl)) rfl rfl (fun r846 => ?_)
  refine XE.go (st_istore (j := 5) (pc' := 537) (by decide +kernel)  rfl (by decide) rfl rfl) ?_
  refine XE.go (st_aload_n (j := 2) (i := 2) (pc' := 538) (by decide +kernel) rfl rfl (by decide) rfl) ?_
  refine XE.go (st_aload_n (j := 0) (i := 0) (pc' := 539) (by decide +kernel) rfl rfl (by decide) rfl) ?_
  refine XE.go (st_iload (j := 4) (pc' := 541) (by decide +kernel) rfl rfl) ?_
  refine XE.go (st_iconst (n := 1) (pc' := 542) (by decide +kernel) (w_eq (by decide) (by decide)) rfl) ?_
  refine XE.go (st_iadd (pc' := 543) (by decide +kernel) rfl) ?_
  refine XE.gdb (fun g847 => ?_)
  refine XE.go (st_sld (pc' := 544) (by decide +kernel) rfl g847.1 g847.2) ?_
  refine XE.asc ?_
  refine XE.cW (pc' := 547) (st := []) (fun r hr => ct_X11_restore h5 r hr) (fun r hr => run_V (st := []) (by decide +kernel) co_L_law_181 (ct_X11_restore h5 r hr) rfl h5 rfl rfl (Nat.le_of_ble_eq_true rfl)) rfl rfl (fun r848 => ?_)
  refine XE.go (st_istore (j := 6) (pc' := 549) (by decide +kernel)  rfl (by decide) rfl rfl) ?_
  refine XE.go (st_aload_n (j := 2) (i := 2) (pc' := 550) (by decide +kernel) rfl rfl (by decide) rfl) ?_
  refine XE.asc ?_
  refine XE.cP (pc' := 553) (st := []) (fun r hr => ct_X11_thrown h5 r hr) (fun r hr => run_V (st := []) (by decide +kernel) co_L_law_165 (ct_X11_thrown h5 r hr) rfl h5 rfl rfl (Nat.le_of_ble_eq_true rfl)) rfl rfl (fun r849 => ?_)
  refine XE.go (st_iload (j := 5) (pc' := 555) (by decide +kernel) rfl rfl) ?_
  refine XE.bite (fun h850 => ?_) (fun h851 => ?_)
  · refine XE.go (st_icmp_eq_t (off := 5) (pc' := 560) (by decide +kernel) (by decide) h850) ?_
    refine XE.go (st_iload (j := 5) (pc' := 562) (by decide +kernel) rfl rfl) ?_
    refine XE.bite (fun h852 => ?_) (fun h853 => ?_)
    · refine XE.go (st_if_ne_f (off := 15) (pc' := 565) (by decide +kernel) 577 (by decide) rfl (not_not_intro h852)) ?_
      refine XE.go (st_aload_n (j := 3) (i := 3) (pc' := 566) (by decide +kernel) rfl rfl (by decide) rfl) ?_
      refine XE.go (st_iconst (n := 0) (pc' := 567) (by decide +kernel) (w_eq (by decide) (by decide)) rfl) ?_
      refine XE.gdb (fun g854 => ?_)
      refine XE.go (st_ald (k := 15) (tp := 2) (pc' := 568) (by decide +kernel) rfl ak_15 rfl (by decide) rfl (Or.inr (Or.inr (Or.inl ⟨rfl, rfl⟩))) g854.1 g854.2.1 g854.2.2) ?_
      refine XE.go (st_iload (j := 6) (pc' := 570) (by decide +kernel) rfl rfl) ?_
      refine XE.go (st_i2l (pc' := 571) (by decide +kernel) rfl) ?_
      refine XE.go (st_lcmp (pc' := 572) (by decide +kernel) rfl) ?_
      refine XE.bite (fun h855 => ?_) (fun h856 => ?_)
      · refine XE.go (st_if_eq_t (off := 5) (pc' := 577) (by decide +kernel) (by decide) h855) ?_
        refine XE.go (st_goto (off := 2771) (pc' := 3348) (by decide +kernel) (by decide)) ?_
        refine XE.go (st_iinc (j := 4) (n := 6) (pc' := 3351) (by decide +kernel) rfl rfl (by decide) rfl rfl) ?_
        refine XE.go (st_goto (off := (-3328)) (pc' := 23) (by decide +kernel) (by decide)) ?_
        exact XE.pick [3, 4, 5, 6, 0] rfl (hc760 ((w (s9.1 + 6)), r848.2))
      · refine XE.go (st_if_eq_f (off := 5) (pc' := 575) (by decide +kernel) 577 (by decide) rfl h856) ?_
        refine XE.go (st_iconst (n := 0) (pc' := 576) (by decide +kernel) (w_eq (by decide) (by decide)) rfl) ?_
        refine XE.cast (hx762 _) ?_
        exact XE.rt rfl (X_zret (by decide +kernel) rfl (by decide))
    · refine XE.go (st_if_ne_t (off := 15) (pc' := 577) (by decide +kernel) (by decide) h853) ?_
      refine XE.go (st_goto (off := 2771) (pc' := 3348) (by decide +kernel) (by decide)) ?_
      refine XE.go (st_iinc (j := 4) (n := 6) (pc' := 3351) (by decide +kernel) rfl rfl (by decide) rfl rfl) ?_
      refine XE.go (st_goto (off := (-3328)) (pc' := 23) (by decide +kernel) (by decide)) ?_
      exact XE.pick [3, 4, 5, 6, 0] rfl (hc760 ((w (s9.1 + 6)), r848.2))
  · refine XE.go (st_icmp_eq_f (off := 5) (pc' := 558) (by decide +kernel) 560 (by decide) rfl h851) ?_
    refine XE.go (st_iconst (n := 0) (pc' := 559) (by decide +kernel) (w_eq (by decide) (by decide)) rfl) ?_
    refine XE.cast (hx762 _) ?_
    exact XE.rt rfl (X_zret (by decide +kernel) rfl (by decide))

set_option maxRecDepth 100000 in
set_option maxHeartbeats 4000000 in
theorem cx_L_5 {D : Dt} {kp : Nat} {kk763 : (Int × Mm) ⊕ ((Int × Mm) ⊕ Mm) → Option (Int × Mm)} (hx762 : ∀ y : Int × Mm, kk763 (.inr (.inl y)) = some y) (hc760 : ∀ s9 : Int × Mm, XE D kp mu_L_law (EW 0) 23 [(0, (100, (-1))), (1, (14, 11000)), (2, (15, 12000)), (3, (18, 15000)), (4, (0, s9.1))] [] s9.2 (kk763 (.inl s9))) (s9 : Int × Mm) : XE D (kp + 1) mu_L_law (EW 0) 580 [(0, (100, (-1))), (1, (14, 11000)), (2, (15, 12000)), (3, (18, 15000)), (4, (0, s9.1))] [] s9.2 ((c_L_5 s9 (D.2.2.2.2.2.1 : Int) (fun i : Int => (D.2.2.2.2.2.2 i.toNat).toInt)).bind kk763) := by
  have h2 : (11000 : Int) ≠ 0 := by decide
  have h5 : (12000 : Int) ≠ 0 := by decide
  have h8 : (15000 : Int) ≠ 0 := by decide
  unfold c_L_5
  refine XE.go (st_aload_n (j := 1) (i := 1) (pc' := 581) (by decide +kernel) rfl rfl (by decide) rfl) ?_
  refine XE.go (st_aload_n (j := 0) (i := 0) (pc' := 582) (by decide +kernel) rfl rfl (by decide) rfl) ?_
  refine XE.go (st_iload (j := 4) (pc' := 584) (by decide +kernel) rfl rfl) ?_
  refine XE.go (st_iconst (n := 1) (pc' := 585) (by decide +kernel) (w_eq (by decide) (by decide)) rfl) ?_
  refine XE.go (st_iadd (pc' := 586) (by decide +kernel) rfl) ?_
  refine XE.gdb (fun g859 => ?_)
  refine XE.go (st_sld (pc' := 587) (by decide +kernel) rfl g859.1 g859.2) ?_
  refine XE.go (st_aload_n (j := 3) (i := 3) (pc' := 588) (by decide +kernel) rfl rfl (by decide) rfl) ?_
  refine XE.asc ?_
  refine XE.cW1 (pc' := 591) (st := []) (fun r hr => ct_L_fetch r hr) (fun r hr => run_S (st := []) (by decide +kernel) co_L_law_182 (ct_L_fetch r hr) rfl rfl (Nat.le_of_ble_eq_true rfl)) rfl rfl (fun r860 => ?_)
  refine XE.go (st_istore (j := 5) (pc' := 593) (by decide +kernel)  rfl (by decide) rfl rfl) ?_
  refine XE.go (st_aload_n (j := 2) (i := 2) (pc' := 594) (by decide +kernel) rfl rfl (by decide) rfl) ?_
  refine XE.go (st_aload_n (j := 0) (i := 0) (pc' := 595) (by decide +kernel) rfl rfl (by decide) rfl) ?_
  refine XE.go (st_iload (j := 4) (pc' := 597) (by decide +kernel) rfl rfl) ?_
  refine XE.go (st_iconst (n := 1) (pc' := 598) (by decide +kernel) (w_eq (by decide) (by decide)) rfl) ?_
  refine XE.go (st_iadd (pc' := 599) (by decide +kernel) rfl) ?_
  refine XE.gdb (fun g861 => ?_)
  refine XE.go (st_sld (pc' := 600) (by decide +kernel) rfl g861.1 g861.2) ?_
  refine XE.asc ?_
  refine XE.cW (pc' := 603) (st := []) (fun r hr => ct_X11_fetch h5 r hr) (fun r hr => run_V (st := []) (by decide +kernel) co_L_law_184 (ct_X11_fetch h5 r hr) rfl h5 rfl rfl (Nat.le_of_ble_eq_true rfl)) rfl rfl (fun r862 => ?_)
  refine XE.go (st_istore (j := 6) (pc' := 605) (by decide +kernel)  rfl (by decide) rfl rfl) ?_
  refine XE.go (st_aload_n (j := 2) (i := 2) (pc' := 606) (by decide +kernel) rfl rfl (by decide) rfl) ?_
  refine XE.asc ?_
  refine XE.cP (pc' := 609) (st := []) (fun r hr => ct_X11_thrown h5 r hr) (fun r hr => run_V (st := []) (by decide +kernel) co_L_law_165 (ct_X11_thrown h5 r hr) rfl h5 rfl rfl (Nat.le_of_ble_eq_true rfl)) rfl rfl (fun r863 => ?_)
  refine XE.go (st_iload (j := 5) (pc' := 611) (by decide +kernel) rfl rfl) ?_
  refine XE.bite (fun h864 => ?_) (fun h865 => ?_)
  · refine XE.go (st_icmp_eq_t (off := 5) (pc' := 616) (by decide +kernel) (by decide) h864) ?_
    refine XE.go (st_iload (j := 5) (pc' := 618) (by decide +kernel) rfl rfl) ?_
    refine XE.bite (fun h866 => ?_) (fun h867 => ?_)
    · refine XE.go (st_if_ne_f (off := 15) (pc' := 621) (by decide +kernel) 633 (by decide) rfl (not_not_intro h866)) ?_
      refine XE.go (st_aload_n (j := 3) (i := 3) (pc' := 622) (by decide +kernel) rfl rfl (by decide) rfl) ?_
      refine XE.go (st_iconst (n := 0) (pc' := 623) (by decide +kernel) (w_eq (by decide) (by decide)) rfl) ?_
      refine XE.gdb (fun g868 => ?_)
      refine XE.go (st_ald (k := 15) (tp := 2) (pc' := 624) (by decide +kernel) rfl ak_15 rfl (by decide) rfl (Or.inr (Or.inr (Or.inl ⟨rfl, rfl⟩))) g868.1 g868.2.1 g868.2.2) ?_
      refine XE.go (st_iload (j := 6) (pc' := 626) (by decide +kernel) rfl rfl) ?_
      refine XE.go (st_i2l (pc' := 627) (by decide +kernel) rfl) ?_
      refine XE.go (st_lcmp (pc' := 628) (by decide +kernel) rfl) ?_
      refine XE.bite (fun h869 => ?_) (fun h870 => ?_)
      · refine XE.go (st_if_eq_t (off := 5) (pc' := 633) (by decide +kernel) (by decide) h869) ?_
        refine XE.go (st_goto (off := 2715) (pc' := 3348) (by decide +kernel) (by decide)) ?_
        refine XE.go (st_iinc (j := 4) (n := 6) (pc' := 3351) (by decide +kernel) rfl rfl (by decide) rfl rfl) ?_
        refine XE.go (st_goto (off := (-3328)) (pc' := 23) (by decide +kernel) (by decide)) ?_
        exact XE.pick [3, 4, 5, 6, 0] rfl (hc760 ((w (s9.1 + 6)), r862.2))
      · refine XE.go (st_if_eq_f (off := 5) (pc' := 631) (by decide +kernel) 633 (by decide) rfl h870) ?_
        refine XE.go (st_iconst (n := 0) (pc' := 632) (by decide +kernel) (w_eq (by decide) (by decide)) rfl) ?_
        refine XE.cast (hx762 _) ?_
        exact XE.rt rfl (X_zret (by decide +kernel) rfl (by decide))
    · refine XE.go (st_if_ne_t (off := 15) (pc' := 633) (by decide +kernel) (by decide) h867) ?_
      refine XE.go (st_goto (off := 2715) (pc' := 3348) (by decide +kernel) (by decide)) ?_
      refine XE.go (st_iinc (j := 4) (n := 6) (pc' := 3351) (by decide +kernel) rfl rfl (by decide) rfl rfl) ?_
      refine XE.go (st_goto (off := (-3328)) (pc' := 23) (by decide +kernel) (by decide)) ?_
      exact XE.pick [3, 4, 5, 6, 0] rfl (hc760 ((w (s9.1 + 6)), r862.2))
  · refine XE.go (st_icmp_eq_f (off := 5) (pc' := 614) (by decide +kernel) 616 (by decide) rfl h865) ?_
    refine XE.go (st_iconst (n := 0) (pc' := 615) (by decide +kernel) (w_eq (by decide) (by decide)) rfl) ?_
    refine XE.cast (hx762 _) ?_
    exact XE.rt rfl (X_zret (by decide +kernel) rfl (by decide))

set_option maxRecDepth 100000 in
set_option maxHeartbeats 4000000 in
theorem cx_L_6 {D : Dt} {kp : Nat} {kk763 : (Int × Mm) ⊕ ((Int × Mm) ⊕ Mm) → Option (Int × Mm)} (hx762 : ∀ y : Int × Mm, kk763 (.inr (.inl y)) = some y) (hc760 : ∀ s9 : Int × Mm, XE D kp mu_L_law (EW 0) 23 [(0, (100, (-1))), (1, (14, 11000)), (2, (15, 12000)), (3, (18, 15000)), (4, (0, s9.1))] [] s9.2 (kk763 (.inl s9))) (s9 : Int × Mm) : XE D (kp + 1) mu_L_law (EW 0) 636 [(0, (100, (-1))), (1, (14, 11000)), (2, (15, 12000)), (3, (18, 15000)), (4, (0, s9.1))] [] s9.2 ((c_L_6 s9 (D.2.2.2.2.2.1 : Int) (fun i : Int => (D.2.2.2.2.2.2 i.toNat).toInt)).bind kk763) := by
  have h2 : (11000 : Int) ≠ 0 := by decide
  have h5 : (12000 : Int) ≠ 0 := by decide
  have h8 : (15000 : Int) ≠ 0 := by decide
  unfold c_L_6
  refine XE.go (st_aload_n (j := 1) (i := 1) (pc' := 637) (by decide +kernel) rfl rfl (by decide) rfl) ?_
  refine XE.go (st_aload_n (j := 0) (i := 0) (pc' := 638) (by decide +kernel) rfl rfl (by decide) rfl) ?_
  refine XE.go (st_iload (j := 4) (pc' := 640) (by decide +kernel) rfl rfl) ?_
  refine XE.go (st_iconst (n := 1) (pc' := 641) (by decide +kernel) (w_eq (by decide) (by decide)) rfl) ?_
  refine XE.go (st_iadd (pc' := 642) (by decide +kernel) rfl) ?_
  refine XE.gdb (fun g873 => ?_)
  refine XE.go (st_sld (pc' := 643) (by decide +kernel) rfl g873.1 g873.2) ?_
  refine XE.go (st_aload_n (j := 3) (i := 3) (pc' := 644) (by decide +kernel) rfl rfl (by decide) rfl) ?_
  refine XE.asc ?_
  refine XE.cW1 (pc' := 647) (st := []) (fun r hr => ct_L_speed r hr) (fun r hr => run_S (st := []) (by decide +kernel) co_L_law_185 (ct_L_speed r hr) rfl rfl (Nat.le_of_ble_eq_true rfl)) rfl rfl (fun r874 => ?_)
  refine XE.go (st_istore (j := 5) (pc' := 649) (by decide +kernel)  rfl (by decide) rfl rfl) ?_
  refine XE.go (st_aload_n (j := 2) (i := 2) (pc' := 650) (by decide +kernel) rfl rfl (by decide) rfl) ?_
  refine XE.go (st_aload_n (j := 0) (i := 0) (pc' := 651) (by decide +kernel) rfl rfl (by decide) rfl) ?_
  refine XE.go (st_iload (j := 4) (pc' := 653) (by decide +kernel) rfl rfl) ?_
  refine XE.go (st_iconst (n := 1) (pc' := 654) (by decide +kernel) (w_eq (by decide) (by decide)) rfl) ?_
  refine XE.go (st_iadd (pc' := 655) (by decide +kernel) rfl) ?_
  refine XE.gdb (fun g875 => ?_)
  refine XE.go (st_sld (pc' := 656) (by decide +kernel) rfl g875.1 g875.2) ?_
  refine XE.asc ?_
  refine XE.cW (pc' := 659) (st := []) (fun r hr => ct_X11_speed h5 r hr) (fun r hr => run_V (st := []) (by decide +kernel) co_L_law_187 (ct_X11_speed h5 r hr) rfl h5 rfl rfl (Nat.le_of_ble_eq_true rfl)) rfl rfl (fun r876 => ?_)
  refine XE.go (st_istore (j := 6) (pc' := 661) (by decide +kernel)  rfl (by decide) rfl rfl) ?_
  refine XE.go (st_aload_n (j := 2) (i := 2) (pc' := 662) (by decide +kernel) rfl rfl (by decide) rfl) ?_
  refine XE.asc ?_
  refine XE.cP (pc' := 665) (st := []) (fun r hr => ct_X11_thrown h5 r hr) (fun r hr => run_V (st := []) (by decide +kernel) co_L_law_165 (ct_X11_thrown h5 r hr) rfl h5 rfl rfl (Nat.le_of_ble_eq_true rfl)) rfl rfl (fun r877 => ?_)
  refine XE.go (st_iload (j := 5) (pc' := 667) (by decide +kernel) rfl rfl) ?_
  refine XE.bite (fun h878 => ?_) (fun h879 => ?_)
  · refine XE.go (st_icmp_eq_t (off := 5) (pc' := 672) (by decide +kernel) (by decide) h878) ?_
    refine XE.go (st_iload (j := 5) (pc' := 674) (by decide +kernel) rfl rfl) ?_
    refine XE.bite (fun h880 => ?_) (fun h881 => ?_)
    · refine XE.go (st_if_ne_f (off := 15) (pc' := 677) (by decide +kernel) 689 (by decide) rfl (not_not_intro h880)) ?_
      refine XE.go (st_aload_n (j := 3) (i := 3) (pc' := 678) (by decide +kernel) rfl rfl (by decide) rfl) ?_
      refine XE.go (st_iconst (n := 0) (pc' := 679) (by decide +kernel) (w_eq (by decide) (by decide)) rfl) ?_
      refine XE.gdb (fun g882 => ?_)
      refine XE.go (st_ald (k := 15) (tp := 2) (pc' := 680) (by decide +kernel) rfl ak_15 rfl (by decide) rfl (Or.inr (Or.inr (Or.inl ⟨rfl, rfl⟩))) g882.1 g882.2.1 g882.2.2) ?_
      refine XE.go (st_iload (j := 6) (pc' := 682) (by decide +kernel) rfl rfl) ?_
      refine XE.go (st_i2l (pc' := 683) (by decide +kernel) rfl) ?_
      refine XE.go (st_lcmp (pc' := 684) (by decide +kernel) rfl) ?_
      refine XE.bite (fun h883 => ?_) (fun h884 => ?_)
      · refine XE.go (st_if_eq_t (off := 5) (pc' := 689) (by decide +kernel) (by decide) h883) ?_
        refine XE.go (st_goto (off := 2659) (pc' := 3348) (by decide +kernel) (by decide)) ?_
        refine XE.go (st_iinc (j := 4) (n := 6) (pc' := 3351) (by decide +kernel) rfl rfl (by decide) rfl rfl) ?_
        refine XE.go (st_goto (off := (-3328)) (pc' := 23) (by decide +kernel) (by decide)) ?_
        exact XE.pick [3, 4, 5, 6, 0] rfl (hc760 ((w (s9.1 + 6)), r876.2))
      · refine XE.go (st_if_eq_f (off := 5) (pc' := 687) (by decide +kernel) 689 (by decide) rfl h884) ?_
        refine XE.go (st_iconst (n := 0) (pc' := 688) (by decide +kernel) (w_eq (by decide) (by decide)) rfl) ?_
        refine XE.cast (hx762 _) ?_
        exact XE.rt rfl (X_zret (by decide +kernel) rfl (by decide))
    · refine XE.go (st_if_ne_t (off := 15) (pc' := 689) (by decide +kernel) (by decide) h881) ?_
      refine XE.go (st_goto (off := 2659) (pc' := 3348) (by decide +kernel) (by decide)) ?_
      refine XE.go (st_iinc (j := 4) (n := 6) (pc' := 3351) (by decide +kernel) rfl rfl (by decide) rfl rfl) ?_
      refine XE.go (st_goto (off := (-3328)) (pc' := 23) (by decide +kernel) (by decide)) ?_
      exact XE.pick [3, 4, 5, 6, 0] rfl (hc760 ((w (s9.1 + 6)), r876.2))
  · refine XE.go (st_icmp_eq_f (off := 5) (pc' := 670) (by decide +kernel) 672 (by decide) rfl h879) ?_
    refine XE.go (st_iconst (n := 0) (pc' := 671) (by decide +kernel) (w_eq (by decide) (by decide)) rfl) ?_
    refine XE.cast (hx762 _) ?_
    exact XE.rt rfl (X_zret (by decide +kernel) rfl (by decide))

set_option maxRecDepth 100000 in
set_option maxHeartbeats 4000000 in
theorem cx_L_7 {D : Dt} {kp : Nat} {kk763 : (Int × Mm) ⊕ ((Int × Mm) ⊕ Mm) → Option (Int × Mm)} (hx762 : ∀ y : Int × Mm, kk763 (.inr (.inl y)) = some y) (hc760 : ∀ s9 : Int × Mm, XE D kp mu_L_law (EW 0) 23 [(0, (100, (-1))), (1, (14, 11000)), (2, (15, 12000)), (3, (18, 15000)), (4, (0, s9.1))] [] s9.2 (kk763 (.inl s9))) (s9 : Int × Mm) : XE D (kp + 1) mu_L_law (EW 0) 692 [(0, (100, (-1))), (1, (14, 11000)), (2, (15, 12000)), (3, (18, 15000)), (4, (0, s9.1))] [] s9.2 ((c_L_7 s9 (D.2.2.2.2.2.1 : Int) (fun i : Int => (D.2.2.2.2.2.2 i.toNat).toInt)).bind kk763) := by
  have h2 : (11000 : Int) ≠ 0 := by decide
  have h5 : (12000 : Int) ≠ 0 := by decide
  have h8 : (15000 : Int) ≠ 0 := by decide
  unfold c_L_7
  refine XE.go (st_aload_n (j := 1) (i := 1) (pc' := 693) (by decide +kernel) rfl rfl (by decide) rfl) ?_
  refine XE.go (st_aload_n (j := 0) (i := 0) (pc' := 694) (by decide +kernel) rfl rfl (by decide) rfl) ?_
  refine XE.go (st_iload (j := 4) (pc' := 696) (by decide +kernel) rfl rfl) ?_
  refine XE.go (st_iconst (n := 1) (pc' := 697) (by decide +kernel) (w_eq (by decide) (by decide)) rfl) ?_
  refine XE.go (st_iadd (pc' := 698) (by decide +kernel) rfl) ?_
  refine XE.gdb (fun g887 => ?_)
  refine XE.go (st_sld (pc' := 699) (by decide +kernel) rfl g887.1 g887.2) ?_
  refine XE.go (st_aload_n (j := 3) (i := 3) (pc' := 700) (by decide +kernel) rfl rfl (by decide) rfl) ?_
  refine XE.asc ?_
  refine XE.cW1 (pc' := 703) (st := []) (fun r hr => ct_L_tick r hr) (fun r hr => run_S (st := []) (by decide +kernel) co_L_law_188 (ct_L_tick r hr) rfl rfl (Nat.le_of_ble_eq_true rfl)) rfl rfl (fun r888 => ?_)
  refine XE.go (st_istore (j := 5) (pc' := 705) (by decide +kernel)  rfl (by decide) rfl rfl) ?_
  refine XE.go (st_aload_n (j := 2) (i := 2) (pc' := 706) (by decide +kernel) rfl rfl (by decide) rfl) ?_
  refine XE.go (st_aload_n (j := 0) (i := 0) (pc' := 707) (by decide +kernel) rfl rfl (by decide) rfl) ?_
  refine XE.go (st_iload (j := 4) (pc' := 709) (by decide +kernel) rfl rfl) ?_
  refine XE.go (st_iconst (n := 1) (pc' := 710) (by decide +kernel) (w_eq (by decide) (by decide)) rfl) ?_
  refine XE.go (st_iadd (pc' := 711) (by decide +kernel) rfl) ?_
  refine XE.gdb (fun g889 => ?_)
  refine XE.go (st_sld (pc' := 712) (by decide +kernel) rfl g889.1 g889.2) ?_
  refine XE.asc ?_
  refine XE.cW (pc' := 715) (st := []) (fun r hr => ct_X11_tick h5 r hr) (fun r hr => run_V (st := []) (by decide +kernel) co_L_law_190 (ct_X11_tick h5 r hr) rfl h5 rfl rfl (Nat.le_of_ble_eq_true rfl)) rfl rfl (fun r890 => ?_)
  refine XE.go (st_istore (j := 6) (pc' := 717) (by decide +kernel)  rfl (by decide) rfl rfl) ?_
  refine XE.go (st_aload_n (j := 2) (i := 2) (pc' := 718) (by decide +kernel) rfl rfl (by decide) rfl) ?_
  refine XE.asc ?_
  refine XE.cP (pc' := 721) (st := []) (fun r hr => ct_X11_thrown h5 r hr) (fun r hr => run_V (st := []) (by decide +kernel) co_L_law_165 (ct_X11_thrown h5 r hr) rfl h5 rfl rfl (Nat.le_of_ble_eq_true rfl)) rfl rfl (fun r891 => ?_)
  refine XE.go (st_iload (j := 5) (pc' := 723) (by decide +kernel) rfl rfl) ?_
  refine XE.bite (fun h892 => ?_) (fun h893 => ?_)
  · refine XE.go (st_icmp_eq_t (off := 5) (pc' := 728) (by decide +kernel) (by decide) h892) ?_
    refine XE.go (st_iload (j := 5) (pc' := 730) (by decide +kernel) rfl rfl) ?_
    refine XE.bite (fun h894 => ?_) (fun h895 => ?_)
    · refine XE.go (st_if_ne_f (off := 15) (pc' := 733) (by decide +kernel) 745 (by decide) rfl (not_not_intro h894)) ?_
      refine XE.go (st_aload_n (j := 3) (i := 3) (pc' := 734) (by decide +kernel) rfl rfl (by decide) rfl) ?_
      refine XE.go (st_iconst (n := 0) (pc' := 735) (by decide +kernel) (w_eq (by decide) (by decide)) rfl) ?_
      refine XE.gdb (fun g896 => ?_)
      refine XE.go (st_ald (k := 15) (tp := 2) (pc' := 736) (by decide +kernel) rfl ak_15 rfl (by decide) rfl (Or.inr (Or.inr (Or.inl ⟨rfl, rfl⟩))) g896.1 g896.2.1 g896.2.2) ?_
      refine XE.go (st_iload (j := 6) (pc' := 738) (by decide +kernel) rfl rfl) ?_
      refine XE.go (st_i2l (pc' := 739) (by decide +kernel) rfl) ?_
      refine XE.go (st_lcmp (pc' := 740) (by decide +kernel) rfl) ?_
      refine XE.bite (fun h897 => ?_) (fun h898 => ?_)
      · refine XE.go (st_if_eq_t (off := 5) (pc' := 745) (by decide +kernel) (by decide) h897) ?_
        refine XE.go (st_goto (off := 2603) (pc' := 3348) (by decide +kernel) (by decide)) ?_
        refine XE.go (st_iinc (j := 4) (n := 6) (pc' := 3351) (by decide +kernel) rfl rfl (by decide) rfl rfl) ?_
        refine XE.go (st_goto (off := (-3328)) (pc' := 23) (by decide +kernel) (by decide)) ?_
        exact XE.pick [3, 4, 5, 6, 0] rfl (hc760 ((w (s9.1 + 6)), r890.2))
      · refine XE.go (st_if_eq_f (off := 5) (pc' := 743) (by decide +kernel) 745 (by decide) rfl h898) ?_
        refine XE.go (st_iconst (n := 0) (pc' := 744) (by decide +kernel) (w_eq (by decide) (by decide)) rfl) ?_
        refine XE.cast (hx762 _) ?_
        exact XE.rt rfl (X_zret (by decide +kernel) rfl (by decide))
    · refine XE.go (st_if_ne_t (off := 15) (pc' := 745) (by decide +kernel) (by decide) h895) ?_
      refine XE.go (st_goto (off := 2603) (pc' := 3348) (by decide +kernel) (by decide)) ?_
      refine XE.go (st_iinc (j := 4) (n := 6) (pc' := 3351) (by decide +kernel) rfl rfl (by decide) rfl rfl) ?_
      refine XE.go (st_goto (off := (-3328)) (pc' := 23) (by decide +kernel) (by decide)) ?_
      exact XE.pick [3, 4, 5, 6, 0] rfl (hc760 ((w (s9.1 + 6)), r890.2))
  · refine XE.go (st_icmp_eq_f (off := 5) (pc' := 726) (by decide +kernel) 728 (by decide) rfl h893) ?_
    refine XE.go (st_iconst (n := 0) (pc' := 727) (by decide +kernel) (w_eq (by decide) (by decide)) rfl) ?_
    refine XE.cast (hx762 _) ?_
    exact XE.rt rfl (X_zret (by decide +kernel) rfl (by decide))

set_option maxRecDepth 100000 in
set_option maxHeartbeats 4000000 in
theorem cx_L_8 {D : Dt} {kp : Nat} {kk763 : (Int × Mm) ⊕ ((Int × Mm) ⊕ Mm) → Option (Int × Mm)} (hx762 : ∀ y : Int × Mm, kk763 (.inr (.inl y)) = some y) (hc760 : ∀ s9 : Int × Mm, XE D kp mu_L_law (EW 0) 23 [(0, (100, (-1))), (1, (14, 11000)), (2, (15, 12000)), (3, (18, 15000)), (4, (0, s9.1))] [] s9.2 (kk763 (.inl s9))) (s9 : Int × Mm) : XE D (kp + 1) mu_L_law (EW 0) 748 [(0, (100, (-1))), (1, (14, 11000)), (2, (15, 12000)), (3, (18, 15000)), (4, (0, s9.1))] [] s9.2 ((c_L_8 s9).bind kk763) := by
  have h2 : (11000 : Int) ≠ 0 := by decide
  have h5 : (12000 : Int) ≠ 0 := by decide
  have h8 : (15000 : Int) ≠ 0 := by decide
  unfold c_L_8
  refine XE.go (st_aload_n (j := 1) (i := 1) (pc' := 749) (by decide +kernel) rfl rfl (by decide) rfl) ?_
  refine XE.go (st_aload_n (j := 3) (i := 3) (pc' := 750) (by decide +kernel) rfl rfl (by decide) rfl) ?_
  refine XE.asc ?_
  refine XE.cW1 (pc' := 753) (st := []) (fun r hr => ct_L_producer r hr) (fun r hr => run_S (st := []) (by decide +kernel) co_L_law_191 (ct_L_producer r hr) rfl rfl (Nat.le_of_ble_eq_true rfl)) rfl rfl (fun r901 => ?_)
  refine XE.go (st_istore (j := 5) (pc' := 755) (by decide +kernel)  rfl (by decide) rfl rfl) ?_
  refine XE.go (st_aload_n (j := 2) (i := 2) (pc' := 756) (by decide +kernel) rfl rfl (by decide) rfl) ?_
  refine XE.asc ?_
  refine XE.cW (pc' := 759) (st := []) (fun r hr => ct_X11_producer h5 r hr) (fun r hr => run_V (st := []) (by decide +kernel) co_L_law_194 (ct_X11_producer h5 r hr) rfl h5 rfl rfl (Nat.le_of_ble_eq_true rfl)) rfl rfl (fun r902 => ?_)
  refine XE.go (st_istore (j := 6) (pc' := 761) (by decide +kernel)  rfl (by decide) rfl rfl) ?_
  refine XE.go (st_aload_n (j := 2) (i := 2) (pc' := 762) (by decide +kernel) rfl rfl (by decide) rfl) ?_
  refine XE.asc ?_
  refine XE.cP (pc' := 765) (st := []) (fun r hr => ct_X11_thrown h5 r hr) (fun r hr => run_V (st := []) (by decide +kernel) co_L_law_165 (ct_X11_thrown h5 r hr) rfl h5 rfl rfl (Nat.le_of_ble_eq_true rfl)) rfl rfl (fun r903 => ?_)
  refine XE.go (st_iload (j := 5) (pc' := 767) (by decide +kernel) rfl rfl) ?_
  refine XE.bite (fun h904 => ?_) (fun h905 => ?_)
  · refine XE.go (st_icmp_eq_t (off := 5) (pc' := 772) (by decide +kernel) (by decide) h904) ?_
    refine XE.go (st_iload (j := 5) (pc' := 774) (by decide +kernel) rfl rfl) ?_
    refine XE.bite (fun h906 => ?_) (fun h907 => ?_)
    · refine XE.go (st_if_ne_f (off := 15) (pc' := 777) (by decide +kernel) 789 (by decide) rfl (not_not_intro h906)) ?_
      refine XE.go (st_aload_n (j := 3) (i := 3) (pc' := 778) (by decide +kernel) rfl rfl (by decide) rfl) ?_
      refine XE.go (st_iconst (n := 0) (pc' := 779) (by decide +kernel) (w_eq (by decide) (by decide)) rfl) ?_
      refine XE.gdb (fun g908 => ?_)
      refine XE.go (st_ald (k := 15) (tp := 2) (pc' := 780) (by decide +kernel) rfl ak_15 rfl (by decide) rfl (Or.inr (Or.inr (Or.inl ⟨rfl, rfl⟩))) g908.1 g908.2.1 g908.2.2) ?_
      refine XE.go (st_iload (j := 6) (pc' := 782) (by decide +kernel) rfl rfl) ?_
      refine XE.go (st_i2l (pc' := 783) (by decide +kernel) rfl) ?_
      refine XE.go (st_lcmp (pc' := 784) (by decide +kernel) rfl) ?_
      refine XE.bite (fun h909 => ?_) (fun h910 => ?_)
      · refine XE.go (st_if_eq_t (off := 5) (pc' := 789) (by decide +kernel) (by decide) h909) ?_
        refine XE.go (st_goto (off := 2559) (pc' := 3348) (by decide +kernel) (by decide)) ?_
        refine XE.go (st_iinc (j := 4) (n := 6) (pc' := 3351) (by decide +kernel) rfl rfl (by decide) rfl rfl) ?_
        refine XE.go (st_goto (off := (-3328)) (pc' := 23) (by decide +kernel) (by decide)) ?_
        exact XE.pick [3, 4, 5, 6, 0] rfl (hc760 ((w (s9.1 + 6)), r902.2))
      · refine XE.go (st_if_eq_f (off := 5) (pc' := 787) (by decide +kernel) 789 (by decide) rfl h910) ?_
        refine XE.go (st_iconst (n := 0) (pc' := 788) (by decide +kernel) (w_eq (by decide) (by decide)) rfl) ?_
        refine XE.cast (hx762 _) ?_
        exact XE.rt rfl (X_zret (by decide +kernel) rfl (by decide))
    · refine XE.go (st_if_ne_t (off := 15) (pc' := 789) (by decide +kernel) (by decide) h907) ?_
      refine XE.go (st_goto (off := 2559) (pc' := 3348) (by decide +kernel) (by decide)) ?_
      refine XE.go (st_iinc (j := 4) (n := 6) (pc' := 3351) (by decide +kernel) rfl rfl (by decide) rfl rfl) ?_
      refine XE.go (st_goto (off := (-3328)) (pc' := 23) (by decide +kernel) (by decide)) ?_
      exact XE.pick [3, 4, 5, 6, 0] rfl (hc760 ((w (s9.1 + 6)), r902.2))
  · refine XE.go (st_icmp_eq_f (off := 5) (pc' := 770) (by decide +kernel) 772 (by decide) rfl h905) ?_
    refine XE.go (st_iconst (n := 0) (pc' := 771) (by decide +kernel) (w_eq (by decide) (by decide)) rfl) ?_
    refine XE.cast (hx762 _) ?_
    exact XE.rt rfl (X_zret (by decide +kernel) rfl (by decide))

set_option maxRecDepth 100000 in
set_option maxHeartbeats 4000000 in
theorem cx_L_9 {D : Dt} {kp : Nat} {kk763 : (Int × Mm) ⊕ ((Int × Mm) ⊕ Mm) → Option (Int × Mm)} (hx762 : ∀ y : Int × Mm, kk763 (.inr (.inl y)) = some y) (hc760 : ∀ s9 : Int × Mm, XE D kp mu_L_law (EW 0) 23 [(0, (100, (-1))), (1, (14, 11000)), (2, (15, 12000)), (3, (18, 15000)), (4, (0, s9.1))] [] s9.2 (kk763 (.inl s9))) (s9 : Int × Mm) : XE D (kp + 1) mu_L_law (EW 0) 792 [(0, (100, (-1))), (1, (14, 11000)), (2, (15, 12000)), (3, (18, 15000)), (4, (0, s9.1))] [] s9.2 ((c_L_9 s9 (D.2.2.2.2.2.1 : Int) (fun i : Int => (D.2.2.2.2.2.2 i.toNat).toInt)).bind kk763) := by
  have h2 : (11000 : Int) ≠ 0 := by decide
  have h5 : (12000 : Int) ≠ 0 := by decide
  have h8 : (15000 : Int) ≠ 0 := by decide
  unfold c_L_9
  refine XE.go (st_aload_n (j := 1) (i := 1) (pc' := 793) (by decide +kernel) rfl rfl (by decide) rfl) ?_
  refine XE.go (st_aload_n (j := 0) (i := 0) (pc' := 794) (by decide +kernel) rfl rfl (by decide) rfl) ?_
  refine XE.go (st_iload (j := 4) (pc' := 796) (by decide +kernel) rfl rfl) ?_
  refine XE.go (st_iconst (n := 1) (pc' := 797) (by decide +kernel) (w_eq (by decide) (by decide)) rfl) ?_
  refine XE.go (st_iadd (pc' := 798) (by decide +kernel) rfl) ?_
  refine XE.gdb (fun g913 => ?_)
  refine XE.go (st_sld (pc' := 799) (by decide +kernel) rfl g913.1 g913.2) ?_
  refine XE.go (st_aload_n (j := 0) (i := 0) (pc' := 800) (by decide +kernel) rfl rfl (by decide) rfl) ?_
  refine XE.go (st_iload (j := 4) (pc' := 802) (by decide +kernel) rfl rfl) ?_
  refine XE.go (st_iconst (n := 2) (pc' := 803) (by decide +kernel) (w_eq (by decide) (by decide)) rfl) ?_
  refine XE.go (st_iadd (pc' := 804) (by decide +kernel) rfl) ?_
  refine XE.gdb (fun g914 => ?_)
  refine XE.go (st_sld (pc' := 805) (by decide +kernel) rfl g914.1 g914.2) ?_
  refine XE.go (st_aload_n (j := 3) (i := 3) (pc' := 806) (by decide +kernel) rfl rfl (by decide) rfl) ?_
  refine XE.asc ?_
  refine XE.cW1 (pc' := 809) (st := []) (fun r hr => ct_L_quota r hr) (fun r hr => run_S (st := []) (by decide +kernel) co_L_law_195 (ct_L_quota r hr) rfl rfl (Nat.le_of_ble_eq_true rfl)) rfl rfl (fun r915 => ?_)
  refine XE.go (st_istore (j := 5) (pc' := 811) (by decide +kernel)  rfl (by decide) rfl rfl) ?_
  refine XE.go (st_aload_n (j := 2) (i := 2) (pc' := 812) (by decide +kernel) rfl rfl (by decide) rfl) ?_
  refine XE.go (st_aload_n (j := 0) (i := 0) (pc' := 813) (by decide +kernel) rfl rfl (by decide) rfl) ?_
  refine XE.go (st_iload (j := 4) (pc' := 815) (by decide +kernel) rfl rfl) ?_
  refine XE.go (st_iconst (n := 1) (pc' := 816) (by decide +kernel) (w_eq (by decide) (by decide)) rfl) ?_
  refine XE.go (st_iadd (pc' := 817) (by decide +kernel) rfl) ?_
  refine XE.gdb (fun g916 => ?_)
  refine XE.go (st_sld (pc' := 818) (by decide +kernel) rfl g916.1 g916.2) ?_
  refine XE.go (st_aload_n (j := 0) (i := 0) (pc' := 819) (by decide +kernel) rfl rfl (by decide) rfl) ?_
  refine XE.go (st_iload (j := 4) (pc' := 821) (by decide +kernel) rfl rfl) ?_
  refine XE.go (st_iconst (n := 2) (pc' := 822) (by decide +kernel) (w_eq (by decide) (by decide)) rfl) ?_
  refine XE.go (st_iadd (pc' := 823) (by decide +kernel) rfl) ?_
  refine XE.gdb (fun g917 => ?_)
  refine XE.go (st_sld (pc' := 824) (by decide +kernel) rfl g917.1 g917.2) ?_
  refine XE.asc ?_
  refine XE.cW (pc' := 827) (st := []) (fun r hr => ct_X11_quota h5 r hr) (fun r hr => run_V (st := []) (by decide +kernel) co_L_law_198 (ct_X11_quota h5 r hr) rfl h5 rfl rfl (Nat.le_of_ble_eq_true rfl)) rfl rfl (fun r918 => ?_)
  refine XE.go (st_istore (j := 6) (pc' := 829) (by decide +kernel)  rfl (by decide) rfl rfl) ?_
  refine XE.go (st_aload_n (j := 2) (i := 2) (pc' := 830) (by decide +kernel) rfl rfl (by decide) rfl) ?_
  refine XE.asc ?_
  refine XE.cP (pc' := 833) (st := []) (fun r hr => ct_X11_thrown h5 r hr) (fun r hr => run_V (st := []) (by decide +kernel) co_L_law_165 (ct_X11_thrown h5 r hr) rfl h5 rfl rfl (Nat.le_of_ble_eq_true rfl)) rfl rfl (fun r919 => ?_)
  refine XE.go (st_iload (j := 5) (pc' := 835) (by decide +kernel) rfl rfl) ?_
  refine XE.bite (fun h920 => ?_) (fun h921 => ?_)
  · refine XE.go (st_icmp_eq_t (off := 5) (pc' := 840) (by decide +kernel) (by decide) h920) ?_
    refine XE.go (st_iload (j := 5) (pc' := 842) (by decide +kernel) rfl rfl) ?_
    refine XE.bite (fun h922 => ?_) (fun h923 => ?_)
    · refine XE.go (st_if_ne_f (off := 15) (pc' := 845) (by decide +kernel) 857 (by decide) rfl (not_not_intro h922)) ?_
      refine XE.go (st_aload_n (j := 3) (i := 3) (pc' := 846) (by decide +kernel) rfl rfl (by decide) rfl) ?_
      refine XE.go (st_iconst (n := 0) (pc' := 847) (by decide +kernel) (w_eq (by decide) (by decide)) rfl) ?_
      refine XE.gdb (fun g924 => ?_)
      refine XE.go (st_ald (k := 15) (tp := 2) (pc' := 848) (by decide +kernel) rfl ak_15 rfl (by decide) rfl (Or.inr (Or.inr (Or.inl ⟨rfl, rfl⟩))) g924.1 g924.2.1 g924.2.2) ?_
      refine XE.go (st_iload (j := 6) (pc' := 850) (by decide +kernel) rfl rfl) ?_
      refine XE.go (st_i2l (pc' := 851) (by decide +kernel) rfl) ?_
      refine XE.go (st_lcmp (pc' := 852) (by decide +kernel) rfl) ?_
      refine XE.bite (fun h925 => ?_) (fun h926 => ?_)
      · refine XE.go (st_if_eq_t (off := 5) (pc' := 857) (by decide +kernel) (by decide) h925) ?_
        refine XE.go (st_goto (off := 2491) (pc' := 3348) (by decide +kernel) (by decide)) ?_
        refine XE.go (st_iinc (j := 4) (n := 6) (pc' := 3351) (by decide +kernel) rfl rfl (by decide) rfl rfl) ?_
        refine XE.go (st_goto (off := (-3328)) (pc' := 23) (by decide +kernel) (by decide)) ?_
        exact XE.pick [3, 4, 5, 6, 0] rfl (hc760 ((w (s9.1 + 6)), r918.2))
      · refine XE.go (st_if_eq_f (off := 5) (pc' := 855) (by decide +kernel) 857 (by decide) rfl h926) ?_
        refine XE.go (st_iconst (n := 0) (pc' := 856) (by decide +kernel) (w_eq (by decide) (by decide)) rfl) ?_
        refine XE.cast (hx762 _) ?_
        exact XE.rt rfl (X_zret (by decide +kernel) rfl (by decide))
    · refine XE.go (st_if_ne_t (off := 15) (pc' := 857) (by decide +kernel) (by decide) h923) ?_
      refine XE.go (st_goto (off := 2491) (pc' := 3348) (by decide +kernel) (by decide)) ?_
      refine XE.go (st_iinc (j := 4) (n := 6) (pc' := 3351) (by decide +kernel) rfl rfl (by decide) rfl rfl) ?_
      refine XE.go (st_goto (off := (-3328)) (pc' := 23) (by decide +kernel) (by decide)) ?_
      exact XE.pick [3, 4, 5, 6, 0] rfl (hc760 ((w (s9.1 + 6)), r918.2))
  · refine XE.go (st_icmp_eq_f (off := 5) (pc' := 838) (by decide +kernel) 840 (by decide) rfl h921) ?_
    refine XE.go (st_iconst (n := 0) (pc' := 839) (by decide +kernel) (w_eq (by decide) (by decide)) rfl) ?_
    refine XE.cast (hx762 _) ?_
    exact XE.rt rfl (X_zret (by decide +kernel) rfl (by decide))

set_option maxRecDepth 100000 in
set_option maxHeartbeats 4000000 in
theorem cx_L_10 {D : Dt} {kp : Nat} {kk763 : (Int × Mm) ⊕ ((Int × Mm) ⊕ Mm) → Option (Int × Mm)} (hx762 : ∀ y : Int × Mm, kk763 (.inr (.inl y)) = some y) (hc760 : ∀ s9 : Int × Mm, XE D kp mu_L_law (EW 0) 23 [(0, (100, (-1))), (1, (14, 11000)), (2, (15, 12000)), (3, (18, 15000)), (4, (0, s9.1))] [] s9.2 (kk763 (.inl s9))) (s9 : Int × Mm) : XE D (kp + 1) mu_L_law (EW 0) 860 [(0, (100, (-1))), (1, (14, 11000)), (2, (15, 12000)), (3, (18, 15000)), (4, (0, s9.1))] [] s9.2 ((c_L_10 s9 (D.2.2.2.2.2.1 : Int) (fun i : Int => (D.2.2.2.2.2.2 i.toNat).toInt)).bind kk763) := by
  have h2 : (11000 : Int) ≠ 0 := by decide
  have h5 : (12000 : Int) ≠ 0 := by decide
  have h8 : (15000 : Int) ≠ 0 := by decide
  unfold c_L_10
  refine XE.go (st_aload_n (j := 1) (i := 1) (pc' := 861) (by decide +kernel) rfl rfl (by decide) rfl) ?_
  refine XE.go (st_aload_n (j := 0) (i := 0) (pc' := 862) (by decide +kernel) rfl rfl (by decide) rfl) ?_
  refine XE.go (st_iload (j := 4) (pc' := 864) (by decide +kernel) rfl rfl) ?_
  refine XE.go (st_iconst (n := 1) (pc' := 865) (by decide +kernel) (w_eq (by decide) (by decide)) rfl) ?_
  refine XE.go (st_iadd (pc' := 866) (by decide +kernel) rfl) ?_
  refine XE.gdb (fun g929 => ?_)
  refine XE.go (st_sld (pc' := 867) (by decide +kernel) rfl g929.1 g929.2) ?_
  refine XE.go (st_aload_n (j := 0) (i := 0) (pc' := 868) (by decide +kernel) rfl rfl (by decide) rfl) ?_
  refine XE.go (st_iload (j := 4) (pc' := 870) (by decide +kernel) rfl rfl) ?_
  refine XE.go (st_iconst (n := 2) (pc' := 871) (by decide +kernel) (w_eq (by decide) (by decide)) rfl) ?_
  refine XE.go (st_iadd (pc' := 872) (by decide +kernel) rfl) ?_
  refine XE.gdb (fun g930 => ?_)
  refine XE.go (st_sld (pc' := 873) (by decide +kernel) rfl g930.1 g930.2) ?_
  refine XE.go (st_aload_n (j := 0) (i := 0) (pc' := 874) (by decide +kernel) rfl rfl (by decide) rfl) ?_
  refine XE.go (st_iload (j := 4) (pc' := 876) (by decide +kernel) rfl rfl) ?_
  refine XE.go (st_iconst (n := 3) (pc' := 877) (by decide +kernel) (w_eq (by decide) (by decide)) rfl) ?_
  refine XE.go (st_iadd (pc' := 878) (by decide +kernel) rfl) ?_
  refine XE.gdb (fun g931 => ?_)
  refine XE.go (st_sld (pc' := 879) (by decide +kernel) rfl g931.1 g931.2) ?_
  refine XE.go (st_aload_n (j := 0) (i := 0) (pc' := 880) (by decide +kernel) rfl rfl (by decide) rfl) ?_
  refine XE.go (st_iload (j := 4) (pc' := 882) (by decide +kernel) rfl rfl) ?_
  refine XE.go (st_iconst (n := 4) (pc' := 883) (by decide +kernel) (w_eq (by decide) (by decide)) rfl) ?_
  refine XE.go (st_iadd (pc' := 884) (by decide +kernel) rfl) ?_
  refine XE.gdb (fun g932 => ?_)
  refine XE.go (st_sld (pc' := 885) (by decide +kernel) rfl g932.1 g932.2) ?_
  refine XE.go (st_aload_n (j := 3) (i := 3) (pc' := 886) (by decide +kernel) rfl rfl (by decide) rfl) ?_
  refine XE.asc ?_
  refine XE.cW1 (pc' := 889) (st := []) (fun r hr => ct_L_send r hr) (fun r hr => run_S (st := []) (by decide +kernel) co_L_law_199 (ct_L_send r hr) rfl rfl (Nat.le_of_ble_eq_true rfl)) rfl rfl (fun r933 => ?_)
  refine XE.go (st_istore (j := 5) (pc' := 891) (by decide +kernel)  rfl (by decide) rfl rfl) ?_
  refine XE.go (st_aload_n (j := 2) (i := 2) (pc' := 892) (by decide +kernel) rfl rfl (by decide) rfl) ?_
  refine XE.go (st_aload_n (j := 0) (i := 0) (pc' := 893) (by decide +kernel) rfl rfl (by decide) rfl) ?_
  refine XE.go (st_iload (j := 4) (pc' := 895) (by decide +kernel) rfl rfl) ?_
  refine XE.go (st_iconst (n := 1) (pc' := 896) (by decide +kernel) (w_eq (by decide) (by decide)) rfl) ?_
  refine XE.go (st_iadd (pc' := 897) (by decide +kernel) rfl) ?_
  refine XE.gdb (fun g934 => ?_)
  refine XE.go (st_sld (pc' := 898) (by decide +kernel) rfl g934.1 g934.2) ?_
  refine XE.go (st_aload_n (j := 0) (i := 0) (pc' := 899) (by decide +kernel) rfl rfl (by decide) rfl) ?_
  refine XE.go (st_iload (j := 4) (pc' := 901) (by decide +kernel) rfl rfl) ?_
  refine XE.go (st_iconst (n := 2) (pc' := 902) (by decide +kernel) (w_eq (by decide) (by decide)) rfl) ?_
  refine XE.go (st_iadd (pc' := 903) (by decide +kernel) rfl) ?_
  refine XE.gdb (fun g935 => ?_)
  refine XE.go (st_sld (pc' := 904) (by decide +kernel) rfl g935.1 g935.2) ?_
  refine XE.go (st_aload_n (j := 0) (i := 0) (pc' := 905) (by decide +kernel) rfl rfl (by decide) rfl) ?_
  refine XE.go (st_iload (j := 4) (pc' := 907) (by decide +kernel) rfl rfl) ?_
  refine XE.go (st_iconst (n := 3) (pc' := 908) (by decide +kernel) (w_eq (by decide) (by decide)) rfl) ?_
  refine XE.go (st_iadd (pc' := 909) (by decide +kernel) rfl) ?_
  refine XE.gdb (fun g936 => ?_)
  refine XE.go (st_sld (pc' := 910) (by decide +kernel) rfl g936.1 g936.2) ?_
  refine XE.go (st_aload_n (j := 0) (i := 0) (pc' := 911) (by decide +kernel) rfl rfl (by decide) rfl) ?_
  refine XE.go (st_iload (j := 4) (pc' := 913) (by decide +kernel) rfl rfl) ?_
  refine XE.go (st_iconst (n := 4) (pc' := 914) (by decide +kernel) (w_eq (by decide) (by decide)) rfl) ?_
  refine XE.go (st_iadd (pc' := 915) (by decide +kernel) rfl) ?_
  refine XE.gdb (fun g937 => ?_)
  refine XE.go (st_sld (pc' := 916) (by decide +kernel) rfl g937.1 g937.2) ?_
  refine XE.asc ?_
  refine XE.cW (pc' := 919) (st := []) (fun r hr => ct_X11_send h5 r hr) (fun r hr => run_V (st := []) (by decide +kernel) co_L_law_202 (ct_X11_send h5 r hr) rfl h5 rfl rfl (Nat.le_of_ble_eq_true rfl)) rfl rfl (fun r938 => ?_)
  refine XE.go (st_istore (j := 6) (pc' := 921) (by decide +kernel)  rfl (by decide) rfl rfl) ?_
  refine XE.go (st_aload_n (j := 2) (i := 2) (pc' := 922) (by decide +kernel) rfl rfl (by decide) rfl) ?_
  refine XE.asc ?_
  refine XE.cP (pc' := 925) (st := []) (fun r hr => ct_X11_thrown h5 r hr) (fun r hr => run_V (st := []) (by decide +kernel) co_L_law_165 (ct_X11_thrown h5 r hr) rfl h5 rfl rfl (Nat.le_of_ble_eq_true rfl)) rfl rfl (fun r939 => ?_)
  refine XE.go (st_iload (j := 5) (pc' := 927) (by decide +kernel) rfl rfl) ?_
  refine XE.bite (fun h940 => ?_) (fun h941 => ?_)
  · refine XE.go (st_icmp_eq_t (off := 5) (pc' := 932) (by decide +kernel) (by decide) h940) ?_
    refine XE.go (st_iload (j := 5) (pc' := 934) (by decide +kernel) rfl rfl) ?_
    refine XE.bite (fun h942 => ?_) (fun h943 => ?_)
    · refine XE.go (st_if_ne_f (off := 15) (pc' := 937) (by decide +kernel) 949 (by decide) rfl (not_not_intro h942)) ?_
      refine XE.go (st_aload_n (j := 3) (i := 3) (pc' := 938) (by decide +kernel) rfl rfl (by decide) rfl) ?_
      refine XE.go (st_iconst (n := 0) (pc' := 939) (by decide +kernel) (w_eq (by decide) (by decide)) rfl) ?_
      refine XE.gdb (fun g944 => ?_)
      refine XE.go (st_ald (k := 15) (tp := 2) (pc' := 940) (by decide +kernel) rfl ak_15 rfl (by decide) rfl (Or.inr (Or.inr (Or.inl ⟨rfl, rfl⟩))) g944.1 g944.2.1 g944.2.2) ?_
      refine XE.go (st_iload (j := 6) (pc' := 942) (by decide +kernel) rfl rfl) ?_
      refine XE.go (st_i2l (pc' := 943) (by decide +kernel) rfl) ?_
      refine XE.go (st_lcmp (pc' := 944) (by decide +kernel) rfl) ?_
      refine XE.bite (fun h945 => ?_) (fun h946 => ?_)
      · refine XE.go (st_if_eq_t (off := 5) (pc' := 949) (by decide +kernel) (by decide) h945) ?_
        refine XE.go (st_goto (off := 2399) (pc' := 3348) (by decide +kernel) (by decide)) ?_
        refine XE.go (st_iinc (j := 4) (n := 6) (pc' := 3351) (by decide +kernel) rfl rfl (by decide) rfl rfl) ?_
        refine XE.go (st_goto (off := (-3328)) (pc' := 23) (by decide +kernel) (by decide)) ?_
        exact XE.pick [3, 4, 5, 6, 0] rfl (hc760 ((w (s9.1 + 6)), r938.2))
      · refine XE.go (st_if_eq_f (off := 5) (pc' := 947) (by decide +kernel) 949 (by decide) rfl h946) ?_
        refine XE.go (st_iconst (n := 0) (pc' := 948) (by decide +kernel) (w_eq (by decide) (by decide)) rfl) ?_
        refine XE.cast (hx762 _) ?_
        exact XE.rt rfl (X_zret (by decide +kernel) rfl (by decide))
    · refine XE.go (st_if_ne_t (off := 15) (pc' := 949) (by decide +kernel) (by decide) h943) ?_
      refine XE.go (st_goto (off := 2399) (pc' := 3348) (by decide +kernel) (by decide)) ?_
      refine XE.go (st_iinc (j := 4) (n := 6) (pc' := 3351) (by decide +kernel) rfl rfl (by decide) rfl rfl) ?_
      refine XE.go (st_goto (off := (-3328)) (pc' := 23) (by decide +kernel) (by decide)) ?_
      exact XE.pick [3, 4, 5, 6, 0] rfl (hc760 ((w (s9.1 + 6)), r938.2))
  · refine XE.go (st_icmp_eq_f (off := 5) (pc' := 930) (by decide +kernel) 932 (by decide) rfl h941) ?_
    refine XE.go (st_iconst (n := 0) (pc' := 931) (by decide +kernel) (w_eq (by decide) (by decide)) rfl) ?_
    refine XE.cast (hx762 _) ?_
    exact XE.rt rfl (X_zret (by decide +kernel) rfl (by decide))

set_option maxRecDepth 100000 in
set_option maxHeartbeats 4000000 in
theorem cx_L_11 {D : Dt} {kp : Nat} {kk763 : (Int × Mm) ⊕ ((Int × Mm) ⊕ Mm) → Option (Int × Mm)} (hx762 : ∀ y : Int × Mm, kk763 (.inr (.inl y)) = some y) (hc760 : ∀ s9 : Int × Mm, XE D kp mu_L_law (EW 0) 23 [(0, (100, (-1))), (1, (14, 11000)), (2, (15, 12000)), (3, (18, 15000)), (4, (0, s9.1))] [] s9.2 (kk763 (.inl s9))) (s9 : Int × Mm) : XE D (kp + 1) mu_L_law (EW 0) 952 [(0, (100, (-1))), (1, (14, 11000)), (2, (15, 12000)), (3, (18, 15000)), (4, (0, s9.1))] [] s9.2 ((c_L_11 s9 (D.2.2.2.2.2.1 : Int) (fun i : Int => (D.2.2.2.2.2.2 i.toNat).toInt)).bind kk763) := by
  have h2 : (11000 : Int) ≠ 0 := by decide
  have h5 : (12000 : Int) ≠ 0 := by decide
  have h8 : (15000 : Int) ≠ 0 := by decide
  unfold c_L_11
  refine XE.go (st_aload_n (j := 1) (i := 1) (pc' := 953) (by decide +kernel) rfl rfl (by decide) rfl) ?_
  refine XE.go (st_aload_n (j := 0) (i := 0) (pc' := 954) (by decide +kernel) rfl rfl (by decide) rfl) ?_
  refine XE.go (st_iload (j := 4) (pc' := 956) (by decide +kernel) rfl rfl) ?_
  refine XE.go (st_iconst (n := 1) (pc' := 957) (by decide +kernel) (w_eq (by decide) (by decide)) rfl) ?_
  refine XE.go (st_iadd (pc' := 958) (by decide +kernel) rfl) ?_
  refine XE.gdb (fun g949 => ?_)
  refine XE.go (st_sld (pc' := 959) (by decide +kernel) rfl g949.1 g949.2) ?_
  refine XE.go (st_aload_n (j := 0) (i := 0) (pc' := 960) (by decide +kernel) rfl rfl (by decide) rfl) ?_
  refine XE.go (st_iload (j := 4) (pc' := 962) (by decide +kernel) rfl rfl) ?_
  refine XE.go (st_iconst (n := 2) (pc' := 963) (by decide +kernel) (w_eq (by decide) (by decide)) rfl) ?_
  refine XE.go (st_iadd (pc' := 964) (by decide +kernel) rfl) ?_
  refine XE.gdb (fun g950 => ?_)
  refine XE.go (st_sld (pc' := 965) (by decide +kernel) rfl g950.1 g950.2) ?_
  refine XE.go (st_aload_n (j := 0) (i := 0) (pc' := 966) (by decide +kernel) rfl rfl (by decide) rfl) ?_
  refine XE.go (st_iload (j := 4) (pc' := 968) (by decide +kernel) rfl rfl) ?_
  refine XE.go (st_iconst (n := 3) (pc' := 969) (by decide +kernel) (w_eq (by decide) (by decide)) rfl) ?_
  refine XE.go (st_iadd (pc' := 970) (by decide +kernel) rfl) ?_
  refine XE.gdb (fun g951 => ?_)
  refine XE.go (st_sld (pc' := 971) (by decide +kernel) rfl g951.1 g951.2) ?_
  refine XE.go (st_aload_n (j := 0) (i := 0) (pc' := 972) (by decide +kernel) rfl rfl (by decide) rfl) ?_
  refine XE.go (st_iload (j := 4) (pc' := 974) (by decide +kernel) rfl rfl) ?_
  refine XE.go (st_iconst (n := 4) (pc' := 975) (by decide +kernel) (w_eq (by decide) (by decide)) rfl) ?_
  refine XE.go (st_iadd (pc' := 976) (by decide +kernel) rfl) ?_
  refine XE.gdb (fun g952 => ?_)
  refine XE.go (st_sld (pc' := 977) (by decide +kernel) rfl g952.1 g952.2) ?_
  refine XE.go (st_aload_n (j := 3) (i := 3) (pc' := 978) (by decide +kernel) rfl rfl (by decide) rfl) ?_
  refine XE.asc ?_
  refine XE.cW1 (pc' := 981) (st := []) (fun r hr => ct_L_sendSome r hr) (fun r hr => run_S (st := []) (by decide +kernel) co_L_law_203 (ct_L_sendSome r hr) rfl rfl (Nat.le_of_ble_eq_true rfl)) rfl rfl (fun r953 => ?_)
  refine XE.go (st_istore (j := 5) (pc' := 983) (by decide +kernel)  rfl (by decide) rfl rfl) ?_
  refine XE.go (st_aload_n (j := 2) (i := 2) (pc' := 984) (by decide +kernel) rfl rfl (by decide) rfl) ?_
  refine XE.go (st_aload_n (j := 0) (i := 0) (pc' := 985) (by decide +kernel) rfl rfl (by decide) rfl) ?_
  refine XE.go (st_iload (j := 4) (pc' := 987) (by decide +kernel) rfl rfl) ?_
  refine XE.go (st_iconst (n := 1) (pc' := 988) (by decide +kernel) (w_eq (by decide) (by decide)) rfl) ?_
  refine XE.go (st_iadd (pc' := 989) (by decide +kernel) rfl) ?_
  refine XE.gdb (fun g954 => ?_)
  refine XE.go (st_sld (pc' := 990) (by decide +kernel) rfl g954.1 g954.2) ?_
  refine XE.go (st_aload_n (j := 0) (i := 0) (pc' := 991) (by decide +kernel) rfl rfl (by decide) rfl) ?_
  refine XE.go (st_iload (j := 4) (pc' := 993) (by decide +kernel) rfl rfl) ?_
  refine XE.go (st_iconst (n := 2) (pc' := 994) (by decide +kernel) (w_eq (by decide) (by decide)) rfl) ?_
  refine XE.go (st_iadd (pc' := 995) (by decide +kernel) rfl) ?_
  refine XE.gdb (fun g955 => ?_)
  refine XE.go (st_sld (pc' := 996) (by decide +kernel) rfl g955.1 g955.2) ?_
  refine XE.go (st_aload_n (j := 0) (i := 0) (pc' := 997) (by decide +kernel) rfl rfl (by decide) rfl) ?_
  refine XE.go (st_iload (j := 4) (pc' := 999) (by decide +kernel) rfl rfl) ?_
  refine XE.go (st_iconst (n := 3) (pc' := 1000) (by decide +kernel) (w_eq (by decide) (by decide)) rfl) ?_
  refine XE.go (st_iadd (pc' := 1001) (by decide +kernel) rfl) ?_
  refine XE.gdb (fun g956 => ?_)
  refine XE.go (st_sld (pc' := 1002) (by decide +kernel) rfl g956.1 g956.2) ?_
  refine XE.go (st_aload_n (j := 0) (i := 0) (pc' := 1003) (by decide +kernel) rfl rfl (by decide) rfl) ?_
  refine XE.go (st_iload (j := 4) (pc' := 1005) (by decide +kernel) rfl rfl) ?_
  refine XE.go (st_iconst (n := 4) (pc' := 1006) (by decide +kernel) (w_eq (by decide) (by decide)) rfl) ?_
  refine XE.go (st_iadd (pc' := 1007) (by decide +kernel) rfl) ?_
  refine XE.gdb (fun g957 => ?_)
  refine XE.go (st_sld (pc' := 1008) (by decide +kernel) rfl g957.1 g957.2) ?_
  refine XE.asc ?_
  refine XE.cW (pc' := 1011) (st := []) (fun r hr => ct_X11_sendSome h5 r hr) (fun r hr => run_V (st := []) (by decide +kernel) co_L_law_205 (ct_X11_sendSome h5 r hr) rfl h5 rfl rfl (Nat.le_of_ble_eq_true rfl)) rfl rfl (fun r958 => ?_)
  refine XE.go (st_istore (j := 6) (pc' := 1013) (by decide +kernel)  rfl (by decide) rfl rfl) ?_
  refine XE.go (st_aload_n (j := 2) (i := 2) (pc' := 1014) (by decide +kernel) rfl rfl (by decide) rfl) ?_
  refine XE.asc ?_
  refine XE.cP (pc' := 1017) (st := []) (fun r hr => ct_X11_thrown h5 r hr) (fun r hr => run_V (st := []) (by decide +kernel) co_L_law_165 (ct_X11_thrown h5 r hr) rfl h5 rfl rfl (Nat.le_of_ble_eq_true rfl)) rfl rfl (fun r959 => ?_)
  refine XE.go (st_iload (j := 5) (pc' := 1019) (by decide +kernel) rfl rfl) ?_
  refine XE.bite (fun h960 => ?_) (fun h961 => ?_)
  · refine XE.go (st_icmp_eq_t (off := 5) (pc' := 1024) (by decide +kernel) (by decide) h960) ?_
    refine XE.go (st_iload (j := 5) (pc' := 1026) (by decide +kernel) rfl rfl) ?_
    refine XE.bite (fun h962 => ?_) (fun h963 => ?_)
    · refine XE.go (st_if_ne_f (off := 15) (pc' := 1029) (by decide +kernel) 1041 (by decide) rfl (not_not_intro h962)) ?_
      refine XE.go (st_aload_n (j := 3) (i := 3) (pc' := 1030) (by decide +kernel) rfl rfl (by decide) rfl) ?_
      refine XE.go (st_iconst (n := 0) (pc' := 1031) (by decide +kernel) (w_eq (by decide) (by decide)) rfl) ?_
      refine XE.gdb (fun g964 => ?_)
      refine XE.go (st_ald (k := 15) (tp := 2) (pc' := 1032) (by decide +kernel) rfl ak_15 rfl (by decide) rfl (Or.inr (Or.inr (Or.inl ⟨rfl, rfl⟩))) g964.1 g964.2.1 g964.2.2) ?_
      refine XE.go (st_iload (j := 6) (pc' := 1034) (by decide +kernel) rfl rfl) ?_
      refine XE.go (st_i2l (pc' := 1035) (by decide +kernel) rfl) ?_
      refine XE.go (st_lcmp (pc' := 1036) (by decide +kernel) rfl) ?_
      refine XE.bite (fun h965 => ?_) (fun h966 => ?_)
      · refine XE.go (st_if_eq_t (off := 5) (pc' := 1041) (by decide +kernel) (by decide) h965) ?_
        refine XE.go (st_goto (off := 2307) (pc' := 3348) (by decide +kernel) (by decide)) ?_
        refine XE.go (st_iinc (j := 4) (n := 6) (pc' := 3351) (by decide +kernel) rfl rfl (by decide) rfl rfl) ?_
        refine XE.go (st_goto (off := (-3328)) (pc' := 23) (by decide +kernel) (by decide)) ?_
        exact XE.pick [3, 4, 5, 6, 0] rfl (hc760 ((w (s9.1 + 6)), r958.2))
      · refine XE.go (st_if_eq_f (off := 5) (pc' := 1039) (by decide +kernel) 1041 (by decide) rfl h966) ?_
        refine XE.go (st_iconst (n := 0) (pc' := 1040) (by decide +kernel) (w_eq (by decide) (by decide)) rfl) ?_
        refine XE.cast (hx762 _) ?_
        exact XE.rt rfl (X_zret (by decide +kernel) rfl (by decide))
    · refine XE.go (st_if_ne_t (off := 15) (pc' := 1041) (by decide +kernel) (by decide) h963) ?_
      refine XE.go (st_goto (off := 2307) (pc' := 3348) (by decide +kernel) (by decide)) ?_
      refine XE.go (st_iinc (j := 4) (n := 6) (pc' := 3351) (by decide +kernel) rfl rfl (by decide) rfl rfl) ?_
      refine XE.go (st_goto (off := (-3328)) (pc' := 23) (by decide +kernel) (by decide)) ?_
      exact XE.pick [3, 4, 5, 6, 0] rfl (hc760 ((w (s9.1 + 6)), r958.2))
  · refine XE.go (st_icmp_eq_f (off := 5) (pc' := 1022) (by decide +kernel) 1024 (by decide) rfl h961) ?_
    refine XE.go (st_iconst (n := 0) (pc' := 1023) (by decide +kernel) (w_eq (by decide) (by decide)) rfl) ?_
    refine XE.cast (hx762 _) ?_
    exact XE.rt rfl (X_zret (by decide +kernel) rfl (by decide))

set_option maxRecDepth 100000 in
set_option maxHeartbeats 4000000 in
theorem cx_L_12 {D : Dt} {kp : Nat} {kk763 : (Int × Mm) ⊕ ((Int × Mm) ⊕ Mm) → Option (Int × Mm)} (hx762 : ∀ y : Int × Mm, kk763 (.inr (.inl y)) = some y) (hc760 : ∀ s9 : Int × Mm, XE D kp mu_L_law (EW 0) 23 [(0, (100, (-1))), (1, (14, 11000)), (2, (15, 12000)), (3, (18, 15000)), (4, (0, s9.1))] [] s9.2 (kk763 (.inl s9))) (s9 : Int × Mm) : XE D (kp + 1) mu_L_law (EW 0) 1044 [(0, (100, (-1))), (1, (14, 11000)), (2, (15, 12000)), (3, (18, 15000)), (4, (0, s9.1))] [] s9.2 ((c_L_12 s9 (D.2.2.2.2.2.1 : Int) (fun i : Int => (D.2.2.2.2.2.2 i.toNat).toInt)).bind kk763) := by
  have h2 : (11000 : Int) ≠ 0 := by decide
  have h5 : (12000 : Int) ≠ 0 := by decide
  have h8 : (15000 : Int) ≠ 0 := by decide
  unfold c_L_12
  refine XE.go (st_aload_n (j := 1) (i := 1) (pc' := 1045) (by decide +kernel) rfl rfl (by decide) rfl) ?_
  refine XE.go (st_aload_n (j := 0) (i := 0) (pc' := 1046) (by decide +kernel) rfl rfl (by decide) rfl) ?_
  refine XE.go (st_iload (j := 4) (pc' := 1048) (by decide +kernel) rfl rfl) ?_
  refine XE.go (st_iconst (n := 1) (pc' := 1049) (by decide +kernel) (w_eq (by decide) (by decide)) rfl) ?_
  refine XE.go (st_iadd (pc' := 1050) (by decide +kernel) rfl) ?_
  refine XE.gdb (fun g969 => ?_)
  refine XE.go (st_sld (pc' := 1051) (by decide +kernel) rfl g969.1 g969.2) ?_
  refine XE.go (st_aload_n (j := 0) (i := 0) (pc' := 1052) (by decide +kernel) rfl rfl (by decide) rfl) ?_
  refine XE.go (st_iload (j := 4) (pc' := 1054) (by decide +kernel) rfl rfl) ?_
  refine XE.go (st_iconst (n := 2) (pc' := 1055) (by decide +kernel) (w_eq (by decide) (by decide)) rfl) ?_
  refine XE.go (st_iadd (pc' := 1056) (by decide +kernel) rfl) ?_
  refine XE.gdb (fun g970 => ?_)
  refine XE.go (st_sld (pc' := 1057) (by decide +kernel) rfl g970.1 g970.2) ?_
  refine XE.go (st_aload_n (j := 0) (i := 0) (pc' := 1058) (by decide +kernel) rfl rfl (by decide) rfl) ?_
  refine XE.go (st_iload (j := 4) (pc' := 1060) (by decide +kernel) rfl rfl) ?_
  refine XE.go (st_iconst (n := 3) (pc' := 1061) (by decide +kernel) (w_eq (by decide) (by decide)) rfl) ?_
  refine XE.go (st_iadd (pc' := 1062) (by decide +kernel) rfl) ?_
  refine XE.gdb (fun g971 => ?_)
  refine XE.go (st_sld (pc' := 1063) (by decide +kernel) rfl g971.1 g971.2) ?_
  refine XE.go (st_aload_n (j := 0) (i := 0) (pc' := 1064) (by decide +kernel) rfl rfl (by decide) rfl) ?_
  refine XE.go (st_iload (j := 4) (pc' := 1066) (by decide +kernel) rfl rfl) ?_
  refine XE.go (st_iconst (n := 4) (pc' := 1067) (by decide +kernel) (w_eq (by decide) (by decide)) rfl) ?_
  refine XE.go (st_iadd (pc' := 1068) (by decide +kernel) rfl) ?_
  refine XE.gdb (fun g972 => ?_)
  refine XE.go (st_sld (pc' := 1069) (by decide +kernel) rfl g972.1 g972.2) ?_
  refine XE.go (st_aload_n (j := 0) (i := 0) (pc' := 1070) (by decide +kernel) rfl rfl (by decide) rfl) ?_
  refine XE.go (st_iload (j := 4) (pc' := 1072) (by decide +kernel) rfl rfl) ?_
  refine XE.go (st_iconst (n := 5) (pc' := 1073) (by decide +kernel) (w_eq (by decide) (by decide)) rfl) ?_
  refine XE.go (st_iadd (pc' := 1074) (by decide +kernel) rfl) ?_
  refine XE.gdb (fun g973 => ?_)
  refine XE.go (st_sld (pc' := 1075) (by decide +kernel) rfl g973.1 g973.2) ?_
  refine XE.go (st_aload_n (j := 3) (i := 3) (pc' := 1076) (by decide +kernel) rfl rfl (by decide) rfl) ?_
  refine XE.asc ?_
  refine XE.cW1 (pc' := 1079) (st := []) (fun r hr => ct_L_sendLater r hr) (fun r hr => run_S (st := []) (by decide +kernel) co_L_law_206 (ct_L_sendLater r hr) rfl rfl (Nat.le_of_ble_eq_true rfl)) rfl rfl (fun r974 => ?_)
  refine XE.go (st_istore (j := 5) (pc' := 1081) (by decide +kernel)  rfl (by decide) rfl rfl) ?_
  refine XE.go (st_aload_n (j := 2) (i := 2) (pc' := 1082) (by decide +kernel) rfl rfl (by decide) rfl) ?_
  refine XE.go (st_aload_n (j := 0) (i := 0) (pc' := 1083) (by decide +kernel) rfl rfl (by decide) rfl) ?_
  refine XE.go (st_iload (j := 4) (pc' := 1085) (by decide +kernel) rfl rfl) ?_
  refine XE.go (st_iconst (n := 1) (pc' := 1086) (by decide +kernel) (w_eq (by decide) (by decide)) rfl) ?_
  refine XE.go (st_iadd (pc' := 1087) (by decide +kernel) rfl) ?_
  refine XE.gdb (fun g975 => ?_)
  refine XE.go (st_sld (pc' := 1088) (by decide +kernel) rfl g975.1 g975.2) ?_
  refine XE.go (st_aload_n (j := 0) (i := 0) (pc' := 1089) (by decide +kernel) rfl rfl (by decide) rfl) ?_
  refine XE.go (st_iload (j := 4) (pc' := 1091) (by decide +kernel) rfl rfl) ?_
  refine XE.go (st_iconst (n := 2) (pc' := 1092) (by decide +kernel) (w_eq (by decide) (by decide)) rfl) ?_
  refine XE.go (st_iadd (pc' := 1093) (by decide +kernel) rfl) ?_
  refine XE.gdb (fun g976 => ?_)
  refine XE.go (st_sld (pc' := 1094) (by decide +kernel) rfl g976.1 g976.2) ?_
  refine XE.go (st_aload_n (j := 0) (i := 0) (pc' := 1095) (by decide +kernel) rfl rfl (by decide) rfl) ?_
  refine XE.go (st_iload (j := 4) (pc' := 1097) (by decide +kernel) rfl rfl) ?_
  refine XE.go (st_iconst (n := 3) (pc' := 1098) (by decide +kernel) (w_eq (by decide) (by decide)) rfl) ?_
  refine XE.go (st_iadd (pc' := 1099) (by decide +kernel) rfl) ?_
  refine XE.gdb (fun g977 => ?_)
  refine XE.go (st_sld (pc' := 1100) (by decide +kernel) rfl g977.1 g977.2) ?_
  refine XE.go (st_aload_n (j := 0) (i := 0) (pc' := 1101) (by decide +kernel) rfl rfl (by decide) rfl) ?_
  refine XE.go (st_iload (j := 4) (pc' := 1103) (by decide +kernel) rfl rfl) ?_
  refine XE.go (st_iconst (n := 4) (pc' := 1104) (by decide +kernel) (w_eq (by decide) (by decide)) rfl) ?_
  refine XE.go (st_iadd (pc' := 1105) (by decide +kernel) rfl) ?_
  refine XE.gdb (fun g978 => ?_)
  refine XE.go (st_sld (pc' := 1106) (by decide +kernel) rfl g978.1 g978.2) ?_
  refine XE.go (st_aload_n (j := 0) (i := 0) (pc' := 1107) (by decide +kernel) rfl rfl (by decide) rfl) ?_
  refine XE.go (st_iload (j := 4) (pc' := 1109) (by decide +kernel) rfl rfl) ?_
  refine XE.go (st_iconst (n := 5) (pc' := 1110) (by decide +kernel) (w_eq (by decide) (by decide)) rfl) ?_
  refine XE.go (st_iadd (pc' := 1111) (by decide +kernel) rfl) ?_
  refine XE.gdb (fun g979 => ?_)
  refine XE.go (st_sld (pc' := 1112) (by decide +kernel) rfl g979.1 g979.2) ?_
  refine XE.asc ?_
  refine XE.cW (pc' := 1115) (st := []) (fun r hr => ct_X11_sendLater h5 r hr) (fun r hr => run_V (st := []) (by decide +kernel) co_L_law_209 (ct_X11_sendLater h5 r hr) rfl h5 rfl rfl (Nat.le_of_ble_eq_true rfl)) rfl rfl (fun r980 => ?_)
  refine XE.go (st_istore (j := 6) (pc' := 1117) (by decide +kernel)  rfl (by decide) rfl rfl) ?_
  refine XE.go (st_aload_n (j := 2) (i := 2) (pc' := 1118) (by decide +kernel) rfl rfl (by decide) rfl) ?_
  refine XE.asc ?_
  refine XE.cP (pc' := 1121) (st := []) (fun r hr => ct_X11_thrown h5 r hr) (fun r hr => run_V (st := []) (by decide +kernel) co_L_law_165 (ct_X11_thrown h5 r hr) rfl h5 rfl rfl (Nat.le_of_ble_eq_true rfl)) rfl rfl (fun r981 => ?_)
  refine XE.go (st_iload (j := 5) (pc' := 1123) (by decide +kernel) rfl rfl) ?_
  refine XE.bite (fun h982 => ?_) (fun h983 => ?_)
  · refine XE.go (st_icmp_eq_t (off := 5) (pc' := 1128) (by decide +kernel) (by decide) h982) ?_
    refine XE.go (st_iload (j := 5) (pc' := 1130) (by decide +kernel) rfl rfl) ?_
    refine XE.bite (fun h984 => ?_) (fun h985 => ?_)
    · refine XE.go (st_if_ne_f (off := 15) (pc' := 1133) (by decide +kernel) 1145 (by decide) rfl (not_not_intro h984)) ?_
      refine XE.go (st_aload_n (j := 3) (i := 3) (pc' := 1134) (by decide +kernel) rfl rfl (by decide) rfl) ?_
      refine XE.go (st_iconst (n := 0) (pc' := 1135) (by decide +kernel) (w_eq (by decide) (by decide)) rfl) ?_
      refine XE.gdb (fun g986 => ?_)
      refine XE.go (st_ald (k := 15) (tp := 2) (pc' := 1136) (by decide +kernel) rfl ak_15 rfl (by decide) rfl (Or.inr (Or.inr (Or.inl ⟨rfl, rfl⟩))) g986.1 g986.2.1 g986.2.2) ?_
      refine XE.go (st_iload (j := 6) (pc' := 1138) (by decide +kernel) rfl rfl) ?_
      refine XE.go (st_i2l (pc' := 1139) (by decide +kernel) rfl) ?_
      refine XE.go (st_lcmp (pc' := 1140) (by decide +kernel) rfl) ?_
      refine XE.bite (fun h987 => ?_) (fun h988 => ?_)
      · refine XE.go (st_if_eq_t (off := 5) (pc' := 1145) (by decide +kernel) (by decide) h987) ?_
        refine XE.go (st_goto (off := 2203) (pc' := 3348) (by decide +kernel) (by decide)) ?_
        refine XE.go (st_iinc (j := 4) (n := 6) (pc' := 3351) (by decide +kernel) rfl rfl (by decide) rfl rfl) ?_
        refine XE.go (st_goto (off := (-3328)) (pc' := 23) (by decide +kernel) (by decide)) ?_
        exact XE.pick [3, 4, 5, 6, 0] rfl (hc760 ((w (s9.1 + 6)), r980.2))
      · refine XE.go (st_if_eq_f (off := 5) (pc' := 1143) (by decide +kernel) 1145 (by decide) rfl h988) ?_
        refine XE.go (st_iconst (n := 0) (pc' := 1144) (by decide +kernel) (w_eq (by decide) (by decide)) rfl) ?_
        refine XE.cast (hx762 _) ?_
        exact XE.rt rfl (X_zret (by decide +kernel) rfl (by decide))
    · refine XE.go (st_if_ne_t (off := 15) (pc' := 1145) (by decide +kernel) (by decide) h985) ?_
      refine XE.go (st_goto (off := 2203) (pc' := 3348) (by decide +kernel) (by decide)) ?_
      refine XE.go (st_iinc (j := 4) (n := 6) (pc' := 3351) (by decide +kernel) rfl rfl (by decide) rfl rfl) ?_
      refine XE.go (st_goto (off := (-3328)) (pc' := 23) (by decide +kernel) (by decide)) ?_
      exact XE.pick [3, 4, 5, 6, 0] rfl (hc760 ((w (s9.1 + 6)), r980.2))
  · refine XE.go (st_icmp_eq_f (off := 5) (pc' := 1126) (by decide +kernel) 1128 (by decide) rfl h983) ?_
    refine XE.go (st_iconst (n := 0) (pc' := 1127) (by decide +kernel) (w_eq (by decide) (by decide)) rfl) ?_
    refine XE.cast (hx762 _) ?_
    exact XE.rt rfl (X_zret (by decide +kernel) rfl (by decide))

set_option maxRecDepth 100000 in
set_option maxHeartbeats 4000000 in
theorem cx_L_13 {D : Dt} {kp : Nat} {kk763 : (Int × Mm) ⊕ ((Int × Mm) ⊕ Mm) → Option (Int × Mm)} (hx762 : ∀ y : Int × Mm, kk763 (.inr (.inl y)) = some y) (hc760 : ∀ s9 : Int × Mm, XE D kp mu_L_law (EW 0) 23 [(0, (100, (-1))), (1, (14, 11000)), (2, (15, 12000)), (3, (18, 15000)), (4, (0, s9.1))] [] s9.2 (kk763 (.inl s9))) (s9 : Int × Mm) : XE D (kp + 1) mu_L_law (EW 0) 1148 [(0, (100, (-1))), (1, (14, 11000)), (2, (15, 12000)), (3, (18, 15000)), (4, (0, s9.1))] [] s9.2 ((c_L_13 s9 (D.2.2.2.2.2.1 : Int) (fun i : Int => (D.2.2.2.2.2.2 i.toNat).toInt)).bind kk763) := by
  have h2 : (11000 : Int) ≠ 0 := by decide
  have h5 : (12000 : Int) ≠ 0 := by decide
  have h8 : (15000 : Int) ≠ 0 := by decide
  unfold c_L_13
  refine XE.go (st_aload_n (j := 1) (i := 1) (pc' := 1149) (by decide +kernel) rfl rfl (by decide) rfl) ?_
  refine XE.go (st_aload_n (j := 0) (i := 0) (pc' := 1150) (by decide +kernel) rfl rfl (by decide) rfl) ?_
  refine XE.go (st_iload (j := 4) (pc' := 1152) (by decide +kernel) rfl rfl) ?_
  refine XE.go (st_iconst (n := 1) (pc' := 1153) (by decide +kernel) (w_eq (by decide) (by decide)) rfl) ?_
  refine XE.go (st_iadd (pc' := 1154) (by decide +kernel) rfl) ?_
  refine XE.gdb (fun g991 => ?_)
  refine XE.go (st_sld (pc' := 1155) (by decide +kernel) rfl g991.1 g991.2) ?_
  refine XE.go (st_aload_n (j := 0) (i := 0) (pc' := 1156) (by decide +kernel) rfl rfl (by decide) rfl) ?_
  refine XE.go (st_iload (j := 4) (pc' := 1158) (by decide +kernel) rfl rfl) ?_
  refine XE.go (st_iconst (n := 2) (pc' := 1159) (by decide +kernel) (w_eq (by decide) (by decide)) rfl) ?_
  refine XE.go (st_iadd (pc' := 1160) (by decide +kernel) rfl) ?_
  refine XE.gdb (fun g992 => ?_)
  refine XE.go (st_sld (pc' := 1161) (by decide +kernel) rfl g992.1 g992.2) ?_
  refine XE.go (st_aload_n (j := 3) (i := 3) (pc' := 1162) (by decide +kernel) rfl rfl (by decide) rfl) ?_
  refine XE.asc ?_
  refine XE.cW1 (pc' := 1165) (st := []) (fun r hr => ct_L_resend r hr) (fun r hr => run_S (st := []) (by decide +kernel) co_L_law_210 (ct_L_resend r hr) rfl rfl (Nat.le_of_ble_eq_true rfl)) rfl rfl (fun r993 => ?_)
  refine XE.go (st_istore (j := 5) (pc' := 1167) (by decide +kernel)  rfl (by decide) rfl rfl) ?_
  refine XE.go (st_aload_n (j := 2) (i := 2) (pc' := 1168) (by decide +kernel) rfl rfl (by decide) rfl) ?_
  refine XE.go (st_aload_n (j := 0) (i := 0) (pc' := 1169) (by decide +kernel) rfl rfl (by decide) rfl) ?_
  refine XE.go (st_iload (j := 4) (pc' := 1171) (by decide +kernel) rfl rfl) ?_
  refine XE.go (st_iconst (n := 1) (pc' := 1172) (by decide +kernel) (w_eq (by decide) (by decide)) rfl) ?_
  refine XE.go (st_iadd (pc' := 1173) (by decide +kernel) rfl) ?_
  refine XE.gdb (fun g994 => ?_)
  refine XE.go (st_sld (pc' := 1174) (by decide +kernel) rfl g994.1 g994.2) ?_
  refine XE.go (st_aload_n (j := 0) (i := 0) (pc' := 1175) (by decide +kernel) rfl rfl (by decide) rfl) ?_
  refine XE.go (st_iload (j := 4) (pc' := 1177) (by decide +kernel) rfl rfl) ?_
  refine XE.go (st_iconst (n := 2) (pc' := 1178) (by decide +kernel) (w_eq (by decide) (by decide)) rfl) ?_
  refine XE.go (st_iadd (pc' := 1179) (by decide +kernel) rfl) ?_
  refine XE.gdb (fun g995 => ?_)
  refine XE.go (st_sld (pc' := 1180) (by decide +kernel) rfl g995.1 g995.2) ?_
  refine XE.asc ?_
  refine XE.cW (pc' := 1183) (st := []) (fun r hr => ct_X11_resend h5 r hr) (fun r hr => run_V (st := []) (by decide +kernel) co_L_law_212 (ct_X11_resend h5 r hr) rfl h5 rfl rfl (Nat.le_of_ble_eq_true rfl)) rfl rfl (fun r996 => ?_)
  refine XE.go (st_istore (j := 6) (pc' := 1185) (by decide +kernel)  rfl (by decide) rfl rfl) ?_
  refine XE.go (st_aload_n (j := 2) (i := 2) (pc' := 1186) (by decide +kernel) rfl rfl (by decide) rfl) ?_
  refine XE.asc ?_
  refine XE.cP (pc' := 1189) (st := []) (fun r hr => ct_X11_thrown h5 r hr) (fun r hr => run_V (st := []) (by decide +kernel) co_L_law_165 (ct_X11_thrown h5 r hr) rfl h5 rfl rfl (Nat.le_of_ble_eq_true rfl)) rfl rfl (fun r997 => ?_)
  refine XE.go (st_iload (j := 5) (pc' := 1191) (by decide +kernel) rfl rfl) ?_
  refine XE.bite (fun h998 => ?_) (fun h999 => ?_)
  · refine XE.go (st_icmp_eq_t (off := 5) (pc' := 1196) (by decide +kernel) (by decide) h998) ?_
    refine XE.go (st_iload (j := 5) (pc' := 1198) (by decide +kernel) rfl rfl) ?_
    refine XE.bite (fun h1000 => ?_) (fun h1001 => ?_)
    · refine XE.go (st_if_ne_f (off := 15) (pc' := 1201) (by decide +kernel) 1213 (by decide) rfl (not_not_intro h1000)) ?_
      refine XE.go (st_aload_n (j := 3) (i := 3) (pc' := 1202) (by decide +kernel) rfl rfl (by decide) rfl) ?_
      refine XE.go (st_iconst (n := 0) (pc' := 1203) (by decide +kernel) (w_eq (by decide) (by decide)) rfl) ?_
      refine XE.gdb (fun g1002 => ?_)
      refine XE.go (st_ald (k := 15) (tp := 2) (pc' := 1204) (by decide +kernel) rfl ak_15 rfl (by decide) rfl (Or.inr (Or.inr (Or.inl ⟨rfl, rfl⟩))) g1002.1 g1002.2.1 g1002.2.2) ?_
      refine XE.go (st_iload (j := 6) (pc' := 1206) (by decide +kernel) rfl rfl) ?_
      refine XE.go (st_i2l (pc' := 1207) (by decide +kernel) rfl) ?_
      refine XE.go (st_lcmp (pc' := 1208) (by decide +kernel) rfl) ?_
      refine XE.bite (fun h1003 => ?_) (fun h1004 => ?_)
      · refine XE.go (st_if_eq_t (off := 5) (pc' := 1213) (by decide +kernel) (by decide) h1003) ?_
        refine XE.go (st_goto (off := 2135) (pc' := 3348) (by decide +kernel) (by decide)) ?_
        refine XE.go (st_iinc (j := 4) (n := 6) (pc' := 3351) (by decide +kernel) rfl rfl (by decide) rfl rfl) ?_
        refine XE.go (st_goto (off := (-3328)) (pc' := 23) (by decide +kernel) (by decide)) ?_
        exact XE.pick [3, 4, 5, 6, 0] rfl (hc760 ((w (s9.1 + 6)), r996.2))
      · refine XE.go (st_if_eq_f (off := 5) (pc' := 1211) (by decide +kernel) 1213 (by decide) rfl h1004) ?_
        refine XE.go (st_iconst (n := 0) (pc' := 1212) (by decide +kernel) (w_eq (by decide) (by decide)) rfl) ?_
        refine XE.cast (hx762 _) ?_
        exact XE.rt rfl (X_zret (by decide +kernel) rfl (by decide))
    · refine XE.go (st_if_ne_t (off := 15) (pc' := 1213) (by decide +kernel) (by decide) h1001) ?_
      refine XE.go (st_goto (off := 2135) (pc' := 3348) (by decide +kernel) (by decide)) ?_
      refine XE.go (st_iinc (j := 4) (n := 6) (pc' := 3351) (by decide +kernel) rfl rfl (by decide) rfl rfl) ?_
      refine XE.go (st_goto (off := (-3328)) (pc' := 23) (by decide +kernel) (by decide)) ?_
      exact XE.pick [3, 4, 5, 6, 0] rfl (hc760 ((w (s9.1 + 6)), r996.2))
  · refine XE.go (st_icmp_eq_f (off := 5) (pc' := 1194) (by decide +kernel) 1196 (by decide) rfl h999) ?_
    refine XE.go (st_iconst (n := 0) (pc' := 1195) (by decide +kernel) (w_eq (by decide) (by decide)) rfl) ?_
    refine XE.cast (hx762 _) ?_
    exact XE.rt rfl (X_zret (by decide +kernel) rfl (by decide))

set_option maxRecDepth 100000 in
set_option maxHeartbeats 4000000 in
theorem cx_L_14 {D : Dt} {kp : Nat} {kk763 : (Int × Mm) ⊕ ((Int × Mm) ⊕ Mm) → Option (Int × Mm)} (hx762 : ∀ y : Int × Mm, kk763 (.inr (.inl y)) = some y) (hc760 : ∀ s9 : Int × Mm, XE D kp mu_L_law (EW 0) 23 [(0, (100, (-1))), (1, (14, 11000)), (2, (15, 12000)), (3, (18, 15000)), (4, (0, s9.1))] [] s9.2 (kk763 (.inl s9))) (s9 : Int × Mm) : XE D (kp + 1) mu_L_law (EW 0) 1216 [(0, (100, (-1))), (1, (14, 11000)), (2, (15, 12000)), (3, (18, 15000)), (4, (0, s9.1))] [] s9.2 ((c_L_14 s9 (D.2.2.2.2.2.1 : Int) (fun i : Int => (D.2.2.2.2.2.2 i.toNat).toInt)).bind kk763) := by
  have h2 : (11000 : Int) ≠ 0 := by decide
  have h5 : (12000 : Int) ≠ 0 := by decide
  have h8 : (15000 : Int) ≠ 0 := by decide
  unfold c_L_14
  refine XE.go (st_aload_n (j := 1) (i := 1) (pc' := 1217) (by decide +kernel) rfl rfl (by decide) rfl) ?_
  refine XE.go (st_aload_n (j := 0) (i := 0) (pc' := 1218) (by decide +kernel) rfl rfl (by decide) rfl) ?_
  refine XE.go (st_iload (j := 4) (pc' := 1220) (by decide +kernel) rfl rfl) ?_
  refine XE.go (st_iconst (n := 1) (pc' := 1221) (by decide +kernel) (w_eq (by decide) (by decide)) rfl) ?_
  refine XE.go (st_iadd (pc' := 1222) (by decide +kernel) rfl) ?_
  refine XE.gdb (fun g1007 => ?_)
  refine XE.go (st_sld (pc' := 1223) (by decide +kernel) rfl g1007.1 g1007.2) ?_
  refine XE.go (st_aload_n (j := 3) (i := 3) (pc' := 1224) (by decide +kernel) rfl rfl (by decide) rfl) ?_
  refine XE.asc ?_
  refine XE.cW1 (pc' := 1227) (st := []) (fun r hr => ct_L_begin r hr) (fun r hr => run_S (st := []) (by decide +kernel) co_L_law_213 (ct_L_begin r hr) rfl rfl (Nat.le_of_ble_eq_true rfl)) rfl rfl (fun r1008 => ?_)
  refine XE.go (st_istore (j := 5) (pc' := 1229) (by decide +kernel)  rfl (by decide) rfl rfl) ?_
  refine XE.go (st_aload_n (j := 2) (i := 2) (pc' := 1230) (by decide +kernel) rfl rfl (by decide) rfl) ?_
  refine XE.go (st_aload_n (j := 0) (i := 0) (pc' := 1231) (by decide +kernel) rfl rfl (by decide) rfl) ?_
  refine XE.go (st_iload (j := 4) (pc' := 1233) (by decide +kernel) rfl rfl) ?_
  refine XE.go (st_iconst (n := 1) (pc' := 1234) (by decide +kernel) (w_eq (by decide) (by decide)) rfl) ?_
  refine XE.go (st_iadd (pc' := 1235) (by decide +kernel) rfl) ?_
  refine XE.gdb (fun g1009 => ?_)
  refine XE.go (st_sld (pc' := 1236) (by decide +kernel) rfl g1009.1 g1009.2) ?_
  refine XE.asc ?_
  refine XE.cW (pc' := 1239) (st := []) (fun r hr => ct_X11_begin h5 r hr) (fun r hr => run_V (st := []) (by decide +kernel) co_L_law_215 (ct_X11_begin h5 r hr) rfl h5 rfl rfl (Nat.le_of_ble_eq_true rfl)) rfl rfl (fun r1010 => ?_)
  refine XE.go (st_istore (j := 6) (pc' := 1241) (by decide +kernel)  rfl (by decide) rfl rfl) ?_
  refine XE.go (st_aload_n (j := 2) (i := 2) (pc' := 1242) (by decide +kernel) rfl rfl (by decide) rfl) ?_
  refine XE.asc ?_
  refine XE.cP (pc' := 1245) (st := []) (fun r hr => ct_X11_thrown h5 r hr) (fun r hr => run_V (st := []) (by decide +kernel) co_L_law_165 (ct_X11_thrown h5 r hr) rfl h5 rfl rfl (Nat.le_of_ble_eq_true rfl)) rfl rfl (fun r1011 => ?_)
  refine XE.go (st_iload (j := 5) (pc' := 1247) (by decide +kernel) rfl rfl) ?_
  refine XE.bite (fun h1012 => ?_) (fun h1013 => ?_)
  · refine XE.go (st_icmp_eq_t (off := 5) (pc' := 1252) (by decide +kernel) (by decide) h1012) ?_
    refine XE.go (st_iload (j := 5) (pc' := 1254) (by decide +kernel) rfl rfl) ?_
    refine XE.bite (fun h1014 => ?_) (fun h1015 => ?_)
    · refine XE.go (st_if_ne_f (off := 15) (pc' := 1257) (by decide +kernel) 1269 (by decide) rfl (not_not_intro h1014)) ?_
      refine XE.go (st_aload_n (j := 3) (i := 3) (pc' := 1258) (by decide +kernel) rfl rfl (by decide) rfl) ?_
      refine XE.go (st_iconst (n := 0) (pc' := 1259) (by decide +kernel) (w_eq (by decide) (by decide)) rfl) ?_
      refine XE.gdb (fun g1016 => ?_)
      refine XE.go (st_ald (k := 15) (tp := 2) (pc' := 1260) (by decide +kernel) rfl ak_15 rfl (by decide) rfl (Or.inr (Or.inr (Or.inl ⟨rfl, rfl⟩))) g1016.1 g1016.2.1 g1016.2.2) ?_
      refine XE.go (st_iload (j := 6) (pc' := 1262) (by decide +kernel) rfl rfl) ?_
      refine XE.go (st_i2l (pc' := 1263) (by decide +kernel) rfl) ?_
      refine XE.go (st_lcmp (pc' := 1264) (by decide +kernel) rfl) ?_
      refine XE.bite (fun h1017 => ?_) (fun h1018 => ?_)
      · refine XE.go (st_if_eq_t (off := 5) (pc' := 1269) (by decide +kernel) (by decide) h1017) ?_
        refine XE.go (st_goto (off := 2079) (pc' := 3348) (by decide +kernel) (by decide)) ?_
        refine XE.go (st_iinc (j := 4) (n := 6) (pc' := 3351) (by decide +kernel) rfl rfl (by decide) rfl rfl) ?_
        refine XE.go (st_goto (off := (-3328)) (pc' := 23) (by decide +kernel) (by decide)) ?_
        exact XE.pick [3, 4, 5, 6, 0] rfl (hc760 ((w (s9.1 + 6)), r1010.2))
      · refine XE.go (st_if_eq_f (off := 5) (pc' := 1267) (by decide +kernel) 1269 (by decide) rfl h1018) ?_
        refine XE.go (st_iconst (n := 0) (pc' := 1268) (by decide +kernel) (w_eq (by decide) (by decide)) rfl) ?_
        refine XE.cast (hx762 _) ?_
        exact XE.rt rfl (X_zret (by decide +kernel) rfl (by decide))
    · refine XE.go (st_if_ne_t (off := 15) (pc' := 1269) (by decide +kernel) (by decide) h1015) ?_
      refine XE.go (st_goto (off := 2079) (pc' := 3348) (by decide +kernel) (by decide)) ?_
      refine XE.go (st_iinc (j := 4) (n := 6) (pc' := 3351) (by decide +kernel) rfl rfl (by decide) rfl rfl) ?_
      refine XE.go (st_goto (off := (-3328)) (pc' := 23) (by decide +kernel) (by decide)) ?_
      exact XE.pick [3, 4, 5, 6, 0] rfl (hc760 ((w (s9.1 + 6)), r1010.2))
  · refine XE.go (st_icmp_eq_f (off := 5) (pc' := 1250) (by decide +kernel) 1252 (by decide) rfl h1013) ?_
    refine XE.go (st_iconst (n := 0) (pc' := 1251) (by decide +kernel) (w_eq (by decide) (by decide)) rfl) ?_
    refine XE.cast (hx762 _) ?_
    exact XE.rt rfl (X_zret (by decide +kernel) rfl (by decide))

