def w2_cells : Array Value := #[.int 3, .int 1919247989, .int 1936007208, .int 673720360, .int 677801839, .int 991961120, .int 4, .int 20, .int 1500, .int 0, .int 0, .int 0]
def w2_about : State := start1.aboutOf w2_cells
def w2_ok (c : Jvm.Cond) : Bool := su_isCode c || c.before start1.args0 w2_about
set_option maxRecDepth 16384 in
theorem w2_o_1_0 : (tables_1_1.take 40).all w2_ok = true := by decide +kernel
set_option maxRecDepth 16384 in
theorem w2_o_1_1 : ((tables_1_1.drop 40).take 40).all w2_ok = true := by decide +kernel
set_option maxRecDepth 16384 in
theorem w2_o_1_2 : (((tables_1_1.drop 40).drop 40).take 40).all w2_ok = true := by decide +kernel
set_option maxRecDepth 16384 in
theorem w2_o_1_3 : ((((tables_1_1.drop 40).drop 40).drop 40).take 40).all w2_ok = true := by decide +kernel
set_option maxRecDepth 16384 in
theorem w2_o_1_4 : (((((tables_1_1.drop 40).drop 40).drop 40).drop 40).take 40).all w2_ok = true := by decide +kernel
set_option maxRecDepth 16384 in
theorem w2_o_1_5 : ((((((tables_1_1.drop 40).drop 40).drop 40).drop 40).drop 40).take 40).all w2_ok = true := by decide +kernel
set_option maxRecDepth 16384 in
theorem w2_o_1_6 : (((((((tables_1_1.drop 40).drop 40).drop 40).drop 40).drop 40).drop 40).take 40).all w2_ok = true := by decide +kernel
set_option maxRecDepth 16384 in
theorem w2_o_1_7 : ((((((((tables_1_1.drop 40).drop 40).drop 40).drop 40).drop 40).drop 40).drop 40).take 40).all w2_ok = true := by decide +kernel
set_option maxRecDepth 16384 in
theorem w2_o_1_8 : ((((((((tables_1_1.drop 40).drop 40).drop 40).drop 40).drop 40).drop 40).drop 40).drop 40).all w2_ok = true := by decide +kernel
theorem w2_all_1 : tables_1_1.all w2_ok = true := (start1.su_all_split _ 40 tables_1_1 w2_o_1_0 (start1.su_all_split _ 40 (tables_1_1.drop 40) w2_o_1_1 (start1.su_all_split _ 40 ((tables_1_1.drop 40).drop 40) w2_o_1_2 (start1.su_all_split _ 40 (((tables_1_1.drop 40).drop 40).drop 40) w2_o_1_3 (start1.su_all_split _ 40 ((((tables_1_1.drop 40).drop 40).drop 40).drop 40) w2_o_1_4 (start1.su_all_split _ 40 (((((tables_1_1.drop 40).drop 40).drop 40).drop 40).drop 40) w2_o_1_5 (start1.su_all_split _ 40 ((((((tables_1_1.drop 40).drop 40).drop 40).drop 40).drop 40).drop 40) w2_o_1_6 (start1.su_all_split _ 40 (((((((tables_1_1.drop 40).drop 40).drop 40).drop 40).drop 40).drop 40).drop 40) w2_o_1_7 w2_o_1_8))))))))
set_option maxRecDepth 16384 in
theorem w2_o_2_0 : (tables_1_2.take 40).all w2_ok = true := by decide +kernel
set_option maxRecDepth 16384 in
theorem w2_o_2_1 : ((tables_1_2.drop 40).take 40).all w2_ok = true := by decide +kernel
set_option maxRecDepth 16384 in
theorem w2_o_2_2 : (((tables_1_2.drop 40).drop 40).take 40).all w2_ok = true := by decide +kernel
set_option maxRecDepth 16384 in
theorem w2_o_2_3 : ((((tables_1_2.drop 40).drop 40).drop 40).take 40).all w2_ok = true := by decide +kernel
set_option maxRecDepth 16384 in
theorem w2_o_2_4 : (((((tables_1_2.drop 40).drop 40).drop 40).drop 40).take 40).all w2_ok = true := by decide +kernel
set_option maxRecDepth 16384 in
theorem w2_o_2_5 : ((((((tables_1_2.drop 40).drop 40).drop 40).drop 40).drop 40).take 40).all w2_ok = true := by decide +kernel
set_option maxRecDepth 16384 in
theorem w2_o_2_6 : (((((((tables_1_2.drop 40).drop 40).drop 40).drop 40).drop 40).drop 40).take 40).all w2_ok = true := by decide +kernel
set_option maxRecDepth 16384 in
theorem w2_o_2_7 : ((((((((tables_1_2.drop 40).drop 40).drop 40).drop 40).drop 40).drop 40).drop 40).take 40).all w2_ok = true := by decide +kernel
set_option maxRecDepth 16384 in
theorem w2_o_2_8 : ((((((((tables_1_2.drop 40).drop 40).drop 40).drop 40).drop 40).drop 40).drop 40).drop 40).all w2_ok = true := by decide +kernel
theorem w2_all_2 : tables_1_2.all w2_ok = true := (start1.su_all_split _ 40 tables_1_2 w2_o_2_0 (start1.su_all_split _ 40 (tables_1_2.drop 40) w2_o_2_1 (start1.su_all_split _ 40 ((tables_1_2.drop 40).drop 40) w2_o_2_2 (start1.su_all_split _ 40 (((tables_1_2.drop 40).drop 40).drop 40) w2_o_2_3 (start1.su_all_split _ 40 ((((tables_1_2.drop 40).drop 40).drop 40).drop 40) w2_o_2_4 (start1.su_all_split _ 40 (((((tables_1_2.drop 40).drop 40).drop 40).drop 40).drop 40) w2_o_2_5 (start1.su_all_split _ 40 ((((((tables_1_2.drop 40).drop 40).drop 40).drop 40).drop 40).drop 40) w2_o_2_6 (start1.su_all_split _ 40 (((((((tables_1_2.drop 40).drop 40).drop 40).drop 40).drop 40).drop 40).drop 40) w2_o_2_7 w2_o_2_8))))))))
set_option maxRecDepth 16384 in
theorem w2_o_3_0 : (tables_1_3.take 40).all w2_ok = true := by decide +kernel
set_option maxRecDepth 16384 in
theorem w2_o_3_1 : ((tables_1_3.drop 40).take 40).all w2_ok = true := by decide +kernel
set_option maxRecDepth 16384 in
theorem w2_o_3_2 : (((tables_1_3.drop 40).drop 40).take 40).all w2_ok = true := by decide +kernel
set_option maxRecDepth 16384 in
theorem w2_o_3_3 : ((((tables_1_3.drop 40).drop 40).drop 40).take 40).all w2_ok = true := by decide +kernel
set_option maxRecDepth 16384 in
theorem w2_o_3_4 : (((((tables_1_3.drop 40).drop 40).drop 40).drop 40).take 40).all w2_ok = true := by decide +kernel
set_option maxRecDepth 16384 in
theorem w2_o_3_5 : ((((((tables_1_3.drop 40).drop 40).drop 40).drop 40).drop 40).take 40).all w2_ok = true := by decide +kernel
set_option maxRecDepth 16384 in
theorem w2_o_3_6 : (((((((tables_1_3.drop 40).drop 40).drop 40).drop 40).drop 40).drop 40).take 40).all w2_ok = true := by decide +kernel
set_option maxRecDepth 16384 in
theorem w2_o_3_7 : ((((((((tables_1_3.drop 40).drop 40).drop 40).drop 40).drop 40).drop 40).drop 40).take 40).all w2_ok = true := by decide +kernel
set_option maxRecDepth 16384 in
theorem w2_o_3_8 : ((((((((tables_1_3.drop 40).drop 40).drop 40).drop 40).drop 40).drop 40).drop 40).drop 40).all w2_ok = true := by decide +kernel
theorem w2_all_3 : tables_1_3.all w2_ok = true := (start1.su_all_split _ 40 tables_1_3 w2_o_3_0 (start1.su_all_split _ 40 (tables_1_3.drop 40) w2_o_3_1 (start1.su_all_split _ 40 ((tables_1_3.drop 40).drop 40) w2_o_3_2 (start1.su_all_split _ 40 (((tables_1_3.drop 40).drop 40).drop 40) w2_o_3_3 (start1.su_all_split _ 40 ((((tables_1_3.drop 40).drop 40).drop 40).drop 40) w2_o_3_4 (start1.su_all_split _ 40 (((((tables_1_3.drop 40).drop 40).drop 40).drop 40).drop 40) w2_o_3_5 (start1.su_all_split _ 40 ((((((tables_1_3.drop 40).drop 40).drop 40).drop 40).drop 40).drop 40) w2_o_3_6 (start1.su_all_split _ 40 (((((((tables_1_3.drop 40).drop 40).drop 40).drop 40).drop 40).drop 40).drop 40) w2_o_3_7 w2_o_3_8))))))))
set_option maxRecDepth 16384 in
theorem w2_o_4_0 : (tables_1_4.take 40).all w2_ok = true := by decide +kernel
set_option maxRecDepth 16384 in
theorem w2_o_4_1 : ((tables_1_4.drop 40).take 40).all w2_ok = true := by decide +kernel
set_option maxRecDepth 16384 in
theorem w2_o_4_2 : (((tables_1_4.drop 40).drop 40).take 40).all w2_ok = true := by decide +kernel
set_option maxRecDepth 16384 in
theorem w2_o_4_3 : ((((tables_1_4.drop 40).drop 40).drop 40).take 40).all w2_ok = true := by decide +kernel
set_option maxRecDepth 16384 in
theorem w2_o_4_4 : (((((tables_1_4.drop 40).drop 40).drop 40).drop 40).take 40).all w2_ok = true := by decide +kernel
set_option maxRecDepth 16384 in
theorem w2_o_4_5 : ((((((tables_1_4.drop 40).drop 40).drop 40).drop 40).drop 40).take 40).all w2_ok = true := by decide +kernel
set_option maxRecDepth 16384 in
theorem w2_o_4_6 : (((((((tables_1_4.drop 40).drop 40).drop 40).drop 40).drop 40).drop 40).take 40).all w2_ok = true := by decide +kernel
set_option maxRecDepth 16384 in
theorem w2_o_4_7 : ((((((((tables_1_4.drop 40).drop 40).drop 40).drop 40).drop 40).drop 40).drop 40).take 40).all w2_ok = true := by decide +kernel
set_option maxRecDepth 16384 in
theorem w2_o_4_8 : ((((((((tables_1_4.drop 40).drop 40).drop 40).drop 40).drop 40).drop 40).drop 40).drop 40).all w2_ok = true := by decide +kernel
theorem w2_all_4 : tables_1_4.all w2_ok = true := (start1.su_all_split _ 40 tables_1_4 w2_o_4_0 (start1.su_all_split _ 40 (tables_1_4.drop 40) w2_o_4_1 (start1.su_all_split _ 40 ((tables_1_4.drop 40).drop 40) w2_o_4_2 (start1.su_all_split _ 40 (((tables_1_4.drop 40).drop 40).drop 40) w2_o_4_3 (start1.su_all_split _ 40 ((((tables_1_4.drop 40).drop 40).drop 40).drop 40) w2_o_4_4 (start1.su_all_split _ 40 (((((tables_1_4.drop 40).drop 40).drop 40).drop 40).drop 40) w2_o_4_5 (start1.su_all_split _ 40 ((((((tables_1_4.drop 40).drop 40).drop 40).drop 40).drop 40).drop 40) w2_o_4_6 (start1.su_all_split _ 40 (((((((tables_1_4.drop 40).drop 40).drop 40).drop 40).drop 40).drop 40).drop 40) w2_o_4_7 w2_o_4_8))))))))
set_option maxRecDepth 16384 in
theorem w2_o_5_0 : (tables_1_5.take 40).all w2_ok = true := by decide +kernel
set_option maxRecDepth 16384 in
theorem w2_o_5_1 : ((tables_1_5.drop 40).take 40).all w2_ok = true := by decide +kernel
set_option maxRecDepth 16384 in
theorem w2_o_5_2 : (((tables_1_5.drop 40).drop 40).take 40).all w2_ok = true := by decide +kernel
set_option maxRecDepth 16384 in
theorem w2_o_5_3 : ((((tables_1_5.drop 40).drop 40).drop 40).take 40).all w2_ok = true := by decide +kernel
set_option maxRecDepth 16384 in
theorem w2_o_5_4 : (((((tables_1_5.drop 40).drop 40).drop 40).drop 40).take 40).all w2_ok = true := by decide +kernel
set_option maxRecDepth 16384 in
theorem w2_o_5_5 : ((((((tables_1_5.drop 40).drop 40).drop 40).drop 40).drop 40).take 40).all w2_ok = true := by decide +kernel
set_option maxRecDepth 16384 in
theorem w2_o_5_6 : (((((((tables_1_5.drop 40).drop 40).drop 40).drop 40).drop 40).drop 40).take 40).all w2_ok = true := by decide +kernel
set_option maxRecDepth 16384 in
theorem w2_o_5_7 : ((((((((tables_1_5.drop 40).drop 40).drop 40).drop 40).drop 40).drop 40).drop 40).take 40).all w2_ok = true := by decide +kernel
set_option maxRecDepth 16384 in
theorem w2_o_5_8 : ((((((((tables_1_5.drop 40).drop 40).drop 40).drop 40).drop 40).drop 40).drop 40).drop 40).all w2_ok = true := by decide +kernel
theorem w2_all_5 : tables_1_5.all w2_ok = true := (start1.su_all_split _ 40 tables_1_5 w2_o_5_0 (start1.su_all_split _ 40 (tables_1_5.drop 40) w2_o_5_1 (start1.su_all_split _ 40 ((tables_1_5.drop 40).drop 40) w2_o_5_2 (start1.su_all_split _ 40 (((tables_1_5.drop 40).drop 40).drop 40) w2_o_5_3 (start1.su_all_split _ 40 ((((tables_1_5.drop 40).drop 40).drop 40).drop 40) w2_o_5_4 (start1.su_all_split _ 40 (((((tables_1_5.drop 40).drop 40).drop 40).drop 40).drop 40) w2_o_5_5 (start1.su_all_split _ 40 ((((((tables_1_5.drop 40).drop 40).drop 40).drop 40).drop 40).drop 40) w2_o_5_6 (start1.su_all_split _ 40 (((((((tables_1_5.drop 40).drop 40).drop 40).drop 40).drop 40).drop 40).drop 40) w2_o_5_7 w2_o_5_8))))))))
set_option maxRecDepth 16384 in
theorem w2_o_6_0 : (tables_1_6.take 40).all w2_ok = true := by decide +kernel
set_option maxRecDepth 16384 in
theorem w2_o_6_1 : ((tables_1_6.drop 40).take 40).all w2_ok = true := by decide +kernel
set_option maxRecDepth 16384 in
theorem w2_o_6_2 : (((tables_1_6.drop 40).drop 40).take 40).all w2_ok = true := by decide +kernel
set_option maxRecDepth 16384 in
theorem w2_o_6_3 : ((((tables_1_6.drop 40).drop 40).drop 40).take 40).all w2_ok = true := by decide +kernel
set_option maxRecDepth 16384 in
theorem w2_o_6_4 : (((((tables_1_6.drop 40).drop 40).drop 40).drop 40).take 40).all w2_ok = true := by decide +kernel
set_option maxRecDepth 16384 in
theorem w2_o_6_5 : ((((((tables_1_6.drop 40).drop 40).drop 40).drop 40).drop 40).take 40).all w2_ok = true := by decide +kernel
set_option maxRecDepth 16384 in
theorem w2_o_6_6 : (((((((tables_1_6.drop 40).drop 40).drop 40).drop 40).drop 40).drop 40).take 40).all w2_ok = true := by decide +kernel
set_option maxRecDepth 16384 in
theorem w2_o_6_7 : ((((((((tables_1_6.drop 40).drop 40).drop 40).drop 40).drop 40).drop 40).drop 40).take 40).all w2_ok = true := by decide +kernel
set_option maxRecDepth 16384 in
theorem w2_o_6_8 : ((((((((tables_1_6.drop 40).drop 40).drop 40).drop 40).drop 40).drop 40).drop 40).drop 40).all w2_ok = true := by decide +kernel
theorem w2_all_6 : tables_1_6.all w2_ok = true := (start1.su_all_split _ 40 tables_1_6 w2_o_6_0 (start1.su_all_split _ 40 (tables_1_6.drop 40) w2_o_6_1 (start1.su_all_split _ 40 ((tables_1_6.drop 40).drop 40) w2_o_6_2 (start1.su_all_split _ 40 (((tables_1_6.drop 40).drop 40).drop 40) w2_o_6_3 (start1.su_all_split _ 40 ((((tables_1_6.drop 40).drop 40).drop 40).drop 40) w2_o_6_4 (start1.su_all_split _ 40 (((((tables_1_6.drop 40).drop 40).drop 40).drop 40).drop 40) w2_o_6_5 (start1.su_all_split _ 40 ((((((tables_1_6.drop 40).drop 40).drop 40).drop 40).drop 40).drop 40) w2_o_6_6 (start1.su_all_split _ 40 (((((((tables_1_6.drop 40).drop 40).drop 40).drop 40).drop 40).drop 40).drop 40) w2_o_6_7 w2_o_6_8))))))))
