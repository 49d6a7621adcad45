set_option maxRecDepth 100000 in
theorem cALL_in : ∀ w ∈ cALL, w ∈ lw_tbl := List.forall_mem_cons.mpr ⟨cALL_i0, List.forall_mem_cons.mpr ⟨cALL_i1, List.forall_mem_cons.mpr ⟨cALL_i2, List.forall_mem_cons.mpr ⟨cALL_i3, List.forall_mem_cons.mpr ⟨cALL_i4, List.forall_mem_cons.mpr ⟨cALL_i5, List.forall_mem_cons.mpr ⟨cALL_i6, List.forall_mem_cons.mpr ⟨cALL_i7, List.forall_mem_cons.mpr ⟨cALL_i8, List.forall_mem_cons.mpr ⟨cALL_i9, List.forall_mem_cons.mpr ⟨cALL_i10, List.forall_mem_cons.mpr ⟨cALL_i11, List.forall_mem_cons.mpr ⟨cALL_i12, List.forall_mem_cons.mpr ⟨cALL_i13, List.forall_mem_cons.mpr ⟨cALL_i14, List.forall_mem_cons.mpr ⟨cALL_i15, List.forall_mem_cons.mpr ⟨cALL_i16, List.forall_mem_cons.mpr ⟨cALL_i17, List.forall_mem_cons.mpr ⟨cALL_i18, List.forall_mem_cons.mpr ⟨cALL_i19, List.forall_mem_cons.mpr ⟨cALL_i20, List.forall_mem_cons.mpr ⟨cALL_i21, List.forall_mem_cons.mpr ⟨cALL_i22, List.forall_mem_cons.mpr ⟨cALL_i23, List.forall_mem_cons.mpr ⟨cALL_i24, List.forall_mem_cons.mpr ⟨cALL_i25, List.forall_mem_cons.mpr ⟨cALL_i26, List.forall_mem_cons.mpr ⟨cALL_i27, List.forall_mem_cons.mpr ⟨cALL_i28, List.forall_mem_cons.mpr ⟨cALL_i29, List.forall_mem_cons.mpr ⟨cALL_i30, List.forall_mem_cons.mpr ⟨cALL_i31, List.forall_mem_cons.mpr ⟨cALL_i32, List.forall_mem_cons.mpr ⟨cALL_i33, List.forall_mem_cons.mpr ⟨cALL_i34, List.forall_mem_cons.mpr ⟨cALL_i35, List.forall_mem_cons.mpr ⟨cALL_i36, List.forall_mem_cons.mpr ⟨cALL_i37, List.forall_mem_cons.mpr ⟨cALL_i38, List.forall_mem_cons.mpr ⟨cALL_i39, List.forall_mem_cons.mpr ⟨cALL_i40, List.forall_mem_cons.mpr ⟨cALL_i41, List.forall_mem_cons.mpr ⟨cALL_i42, List.forall_mem_cons.mpr ⟨cALL_i43, List.forall_mem_cons.mpr ⟨cALL_i44, List.forall_mem_cons.mpr ⟨cALL_i45, List.forall_mem_cons.mpr ⟨cALL_i46, List.forall_mem_cons.mpr ⟨cALL_i47, List.forall_mem_cons.mpr ⟨cALL_i48, List.forall_mem_cons.mpr ⟨cALL_i49, List.forall_mem_cons.mpr ⟨cALL_i50, List.forall_mem_cons.mpr ⟨cALL_i51, List.forall_mem_cons.mpr ⟨cALL_i52, List.forall_mem_cons.mpr ⟨cALL_i53, List.forall_mem_cons.mpr ⟨cALL_i54, List.forall_mem_cons.mpr ⟨cALL_i55, List.forall_mem_cons.mpr ⟨cALL_i56, List.forall_mem_cons.mpr ⟨cALL_i57, List.forall_mem_cons.mpr ⟨cALL_i58, List.forall_mem_cons.mpr ⟨cALL_i59, List.forall_mem_cons.mpr ⟨cALL_i60, List.forall_mem_cons.mpr ⟨cALL_i61, List.forall_mem_cons.mpr ⟨cALL_i62, List.forall_mem_cons.mpr ⟨cALL_i63, List.forall_mem_cons.mpr ⟨cALL_i64, List.forall_mem_cons.mpr ⟨cALL_i65, List.forall_mem_cons.mpr ⟨cALL_i66, List.forall_mem_cons.mpr ⟨cALL_i67, List.forall_mem_cons.mpr ⟨cALL_i68, List.forall_mem_cons.mpr ⟨cALL_i69, List.forall_mem_cons.mpr ⟨cALL_i70, List.forall_mem_cons.mpr ⟨cALL_i71, List.forall_mem_cons.mpr ⟨cALL_i72, List.forall_mem_cons.mpr ⟨cALL_i73, List.forall_mem_cons.mpr ⟨cALL_i74, List.forall_mem_cons.mpr ⟨cALL_i75, List.forall_mem_cons.mpr ⟨cALL_i76, List.forall_mem_cons.mpr ⟨cALL_i77, List.forall_mem_cons.mpr ⟨cALL_i78, List.forall_mem_cons.mpr ⟨cALL_i79, List.forall_mem_cons.mpr ⟨cALL_i80, List.forall_mem_cons.mpr ⟨cALL_i81, List.forall_mem_cons.mpr ⟨cALL_i82, List.forall_mem_cons.mpr ⟨cALL_i83, List.forall_mem_cons.mpr ⟨cALL_i84, List.forall_mem_cons.mpr ⟨cALL_i85, List.forall_mem_cons.mpr ⟨cALL_i86, List.forall_mem_cons.mpr ⟨cALL_i87, List.forall_mem_cons.mpr ⟨cALL_i88, List.forall_mem_cons.mpr ⟨cALL_i89, List.forall_mem_cons.mpr ⟨cALL_i90, List.forall_mem_cons.mpr ⟨cALL_i91, List.forall_mem_cons.mpr ⟨cALL_i92, List.forall_mem_cons.mpr ⟨cALL_i93, List.forall_mem_cons.mpr ⟨cALL_i94, List.forall_mem_cons.mpr ⟨cALL_i95, List.forall_mem_cons.mpr ⟨cALL_i96, List.forall_mem_cons.mpr ⟨cALL_i97, List.forall_mem_cons.mpr ⟨cALL_i98, List.forall_mem_cons.mpr ⟨cALL_i99, List.forall_mem_cons.mpr ⟨cALL_i100, List.forall_mem_cons.mpr ⟨cALL_i101, List.forall_mem_cons.mpr ⟨cALL_i102, List.forall_mem_cons.mpr ⟨cALL_i103, List.forall_mem_cons.mpr ⟨cALL_i104, List.forall_mem_cons.mpr ⟨cALL_i105, List.forall_mem_cons.mpr ⟨cALL_i106, List.forall_mem_cons.mpr ⟨cALL_i107, List.forall_mem_cons.mpr ⟨cALL_i108, List.forall_mem_cons.mpr ⟨cALL_i109, List.forall_mem_cons.mpr ⟨cALL_i110, List.forall_mem_cons.mpr ⟨cALL_i111, List.forall_mem_cons.mpr ⟨cALL_i112, List.forall_mem_cons.mpr ⟨cALL_i113, List.forall_mem_cons.mpr ⟨cALL_i114, List.forall_mem_cons.mpr ⟨cALL_i115, List.forall_mem_cons.mpr ⟨cALL_i116, List.forall_mem_cons.mpr ⟨cALL_i117, List.forall_mem_cons.mpr ⟨cALL_i118, List.forall_mem_cons.mpr ⟨cALL_i119, List.forall_mem_cons.mpr ⟨cALL_i120, List.forall_mem_cons.mpr ⟨cALL_i121, List.forall_mem_cons.mpr ⟨cALL_i122, List.forall_mem_cons.mpr ⟨cALL_i123, List.forall_mem_cons.mpr ⟨cALL_i124, List.forall_mem_cons.mpr ⟨cALL_i125, List.forall_mem_cons.mpr ⟨cALL_i126, List.forall_mem_cons.mpr ⟨cALL_i127, List.forall_mem_cons.mpr ⟨cALL_i128, List.forall_mem_cons.mpr ⟨cALL_i129, List.forall_mem_cons.mpr ⟨cALL_i130, List.forall_mem_cons.mpr ⟨cALL_i131, List.forall_mem_cons.mpr ⟨cALL_i132, List.forall_mem_cons.mpr ⟨cALL_i133, List.forall_mem_cons.mpr ⟨cALL_i134, List.forall_mem_cons.mpr ⟨cALL_i135, List.forall_mem_cons.mpr ⟨cALL_i136, List.forall_mem_cons.mpr ⟨cALL_i137, List.forall_mem_cons.mpr ⟨cALL_i138, List.forall_mem_cons.mpr ⟨cALL_i139, List.forall_mem_cons.mpr ⟨cALL_i140, List.forall_mem_cons.mpr ⟨cALL_i141, List.forall_mem_cons.mpr ⟨cALL_i142, List.forall_mem_cons.mpr ⟨cALL_i143, List.forall_mem_cons.mpr ⟨cALL_i144, List.forall_mem_cons.mpr ⟨cALL_i145, List.forall_mem_cons.mpr ⟨cALL_i146, List.forall_mem_cons.mpr ⟨cALL_i147, List.forall_mem_cons.mpr ⟨cALL_i148, List.forall_mem_cons.mpr ⟨cALL_i149, List.forall_mem_cons.mpr ⟨cALL_i150, List.forall_mem_cons.mpr ⟨cALL_i151, List.forall_mem_cons.mpr ⟨cALL_i152, List.forall_mem_cons.mpr ⟨cALL_i153, List.forall_mem_cons.mpr ⟨cALL_i154, List.forall_mem_cons.mpr ⟨cALL_i155, List.forall_mem_cons.mpr ⟨cALL_i156, List.forall_mem_cons.mpr ⟨cALL_i157, List.forall_mem_cons.mpr ⟨cALL_i158, List.forall_mem_cons.mpr ⟨cALL_i159, List.forall_mem_cons.mpr ⟨cALL_i160, List.forall_mem_cons.mpr ⟨cALL_i161, List.forall_mem_cons.mpr ⟨cALL_i162, List.forall_mem_cons.mpr ⟨cALL_i163, List.forall_mem_cons.mpr ⟨cALL_i164, List.forall_mem_cons.mpr ⟨cALL_i165, List.forall_mem_cons.mpr ⟨cALL_i166, List.forall_mem_cons.mpr ⟨cALL_i167, List.forall_mem_cons.mpr ⟨cALL_i168, List.forall_mem_cons.mpr ⟨cALL_i169, List.forall_mem_cons.mpr ⟨cALL_i170, List.forall_mem_cons.mpr ⟨cALL_i171, List.forall_mem_cons.mpr ⟨cALL_i172, List.forall_mem_cons.mpr ⟨cALL_i173, List.forall_mem_cons.mpr ⟨cALL_i174, List.forall_mem_cons.mpr ⟨cALL_i175, List.forall_mem_cons.mpr ⟨cALL_i176, List.forall_mem_cons.mpr ⟨cALL_i177, List.forall_mem_cons.mpr ⟨cALL_i178, List.forall_mem_cons.mpr ⟨cALL_i179, List.forall_mem_cons.mpr ⟨cALL_i180, List.forall_mem_cons.mpr ⟨cALL_i181, List.forall_mem_cons.mpr ⟨cALL_i182, List.forall_mem_cons.mpr ⟨cALL_i183, List.forall_mem_cons.mpr ⟨cALL_i184, List.forall_mem_cons.mpr ⟨cALL_i185, List.forall_mem_cons.mpr ⟨cALL_i186, List.forall_mem_cons.mpr ⟨cALL_i187, List.forall_mem_cons.mpr ⟨cALL_i188, List.forall_mem_cons.mpr ⟨cALL_i189, List.forall_mem_cons.mpr ⟨cALL_i190, List.forall_mem_cons.mpr ⟨cALL_i191, List.forall_mem_cons.mpr ⟨cALL_i192, List.forall_mem_cons.mpr ⟨cALL_i193, List.forall_mem_cons.mpr ⟨cALL_i194, List.forall_mem_cons.mpr ⟨cALL_i195, List.forall_mem_cons.mpr ⟨cALL_i196, List.forall_mem_cons.mpr ⟨cALL_i197, List.forall_mem_cons.mpr ⟨cALL_i198, List.forall_mem_cons.mpr ⟨cALL_i199, List.forall_mem_cons.mpr ⟨cALL_i200, List.forall_mem_cons.mpr ⟨cALL_i201, List.forall_mem_cons.mpr ⟨cALL_i202, List.forall_mem_cons.mpr ⟨cALL_i203, List.forall_mem_cons.mpr ⟨cALL_i204, List.forall_mem_cons.mpr ⟨cALL_i205, List.forall_mem_cons.mpr ⟨cALL_i206, List.forall_mem_cons.mpr ⟨cALL_i207, List.forall_mem_cons.mpr ⟨cALL_i208, List.forall_mem_cons.mpr ⟨cALL_i209, List.forall_mem_cons.mpr ⟨cALL_i210, List.forall_mem_cons.mpr ⟨cALL_i211, List.forall_mem_cons.mpr ⟨cALL_i212, List.forall_mem_cons.mpr ⟨cALL_i213, List.forall_mem_cons.mpr ⟨cALL_i214, List.forall_mem_cons.mpr ⟨cALL_i215, List.forall_mem_cons.mpr ⟨cALL_i216, List.forall_mem_cons.mpr ⟨cALL_i217, List.forall_mem_cons.mpr ⟨cALL_i218, List.forall_mem_cons.mpr ⟨cALL_i219, List.forall_mem_cons.mpr ⟨cALL_i220, List.forall_mem_cons.mpr ⟨cALL_i221, List.forall_mem_cons.mpr ⟨cALL_i222, List.forall_mem_cons.mpr ⟨cALL_i223, List.forall_mem_cons.mpr ⟨cALL_i224, List.forall_mem_cons.mpr ⟨cALL_i225, List.forall_mem_cons.mpr ⟨cALL_i226, List.forall_mem_cons.mpr ⟨cALL_i227, List.forall_mem_cons.mpr ⟨cALL_i228, List.forall_mem_cons.mpr ⟨cALL_i229, List.forall_mem_cons.mpr ⟨cALL_i230, List.forall_mem_cons.mpr ⟨cALL_i231, List.forall_mem_cons.mpr ⟨cALL_i232, List.forall_mem_cons.mpr ⟨cALL_i233, List.forall_mem_cons.mpr ⟨cALL_i234, List.forall_mem_cons.mpr ⟨cALL_i235, List.forall_mem_cons.mpr ⟨cALL_i236, List.forall_mem_cons.mpr ⟨cALL_i237, List.forall_mem_cons.mpr ⟨cALL_i238, List.forall_mem_cons.mpr ⟨cALL_i239, List.forall_mem_cons.mpr ⟨cALL_i240, List.forall_mem_cons.mpr ⟨cALL_i241, List.forall_mem_cons.mpr ⟨cALL_i242, List.forall_mem_cons.mpr ⟨cALL_i243, List.forall_mem_cons.mpr ⟨cALL_i244, List.forall_mem_cons.mpr ⟨cALL_i245, List.forall_mem_cons.mpr ⟨cALL_i246, List.forall_mem_cons.mpr ⟨cALL_i247, List.forall_mem_cons.mpr ⟨cALL_i248, List.forall_mem_cons.mpr ⟨cALL_i249, List.forall_mem_cons.mpr ⟨cALL_i250, List.forall_mem_cons.mpr ⟨cALL_i251, List.forall_mem_cons.mpr ⟨cALL_i252, List.forall_mem_cons.mpr ⟨cALL_i253, List.forall_mem_cons.mpr ⟨cALL_i254, List.forall_mem_cons.mpr ⟨cALL_i255, List.forall_mem_cons.mpr ⟨cALL_i256, List.forall_mem_cons.mpr ⟨cALL_i257, List.forall_mem_cons.mpr ⟨cALL_i258, List.forall_mem_cons.mpr ⟨cALL_i259, List.forall_mem_cons.mpr ⟨cALL_i260, List.forall_mem_cons.mpr ⟨cALL_i261, List.forall_mem_cons.mpr ⟨cALL_i262, List.forall_mem_cons.mpr ⟨cALL_i263, List.forall_mem_cons.mpr ⟨cALL_i264, List.forall_mem_cons.mpr ⟨cALL_i265, List.forall_mem_cons.mpr ⟨cALL_i266, List.forall_mem_cons.mpr ⟨cALL_i267, List.forall_mem_cons.mpr ⟨cALL_i268, List.forall_mem_cons.mpr ⟨cALL_i269, List.forall_mem_cons.mpr ⟨cALL_i270, List.forall_mem_cons.mpr ⟨cALL_i271, List.forall_mem_cons.mpr ⟨cALL_i272, List.forall_mem_cons.mpr ⟨cALL_i273, List.forall_mem_cons.mpr ⟨cALL_i274, List.forall_mem_cons.mpr ⟨cALL_i275, List.forall_mem_cons.mpr ⟨cALL_i276, List.forall_mem_cons.mpr ⟨cALL_i277, List.forall_mem_cons.mpr ⟨cALL_i278, List.forall_mem_cons.mpr ⟨cALL_i279, List.forall_mem_cons.mpr ⟨cALL_i280, List.forall_mem_cons.mpr ⟨cALL_i281, List.forall_mem_cons.mpr ⟨cALL_i282, List.forall_mem_cons.mpr ⟨cALL_i283, List.forall_mem_cons.mpr ⟨cALL_i284, List.forall_mem_cons.mpr ⟨cALL_i285, List.forall_mem_cons.mpr ⟨cALL_i286, List.forall_mem_cons.mpr ⟨cALL_i287, List.forall_mem_cons.mpr ⟨cALL_i288, List.forall_mem_cons.mpr ⟨cALL_i289, List.forall_mem_cons.mpr ⟨cALL_i290, List.forall_mem_cons.mpr ⟨cALL_i291, List.forall_mem_cons.mpr ⟨cALL_i292, List.forall_mem_cons.mpr ⟨cALL_i293, List.forall_mem_cons.mpr ⟨cALL_i294, List.forall_mem_cons.mpr ⟨cALL_i295, List.forall_mem_cons.mpr ⟨cALL_i296, List.forall_mem_cons.mpr ⟨cALL_i297, List.forall_mem_cons.mpr ⟨cALL_i298, List.forall_mem_cons.mpr ⟨cALL_i299, List.forall_mem_cons.mpr ⟨cALL_i300, List.forall_mem_cons.mpr ⟨cALL_i301, List.forall_mem_cons.mpr ⟨cALL_i302, List.forall_mem_cons.mpr ⟨cALL_i303, List.forall_mem_cons.mpr ⟨cALL_i304, List.forall_mem_cons.mpr ⟨cALL_i305, List.forall_mem_cons.mpr ⟨cALL_i306, List.forall_mem_cons.mpr ⟨cALL_i307, List.forall_mem_cons.mpr ⟨cALL_i308, List.forall_mem_cons.mpr ⟨cALL_i309, List.forall_mem_cons.mpr ⟨cALL_i310, List.forall_mem_cons.mpr ⟨cALL_i311, List.forall_mem_cons.mpr ⟨cALL_i312, List.forall_mem_cons.mpr ⟨cALL_i313, List.forall_mem_cons.mpr ⟨cALL_i314, List.forall_mem_cons.mpr ⟨cALL_i315, List.forall_mem_cons.mpr ⟨cALL_i316, List.forall_mem_cons.mpr ⟨cALL_i317, List.forall_mem_cons.mpr ⟨cALL_i318, List.forall_mem_cons.mpr ⟨cALL_i319, List.forall_mem_cons.mpr ⟨cALL_i320, List.forall_mem_cons.mpr ⟨cALL_i321, List.forall_mem_cons.mpr ⟨cALL_i322, List.forall_mem_cons.mpr ⟨cALL_i323, List.forall_mem_cons.mpr ⟨cALL_i324, List.forall_mem_cons.mpr ⟨cALL_i325, List.forall_mem_cons.mpr ⟨cALL_i326, List.forall_mem_cons.mpr ⟨cALL_i327, List.forall_mem_cons.mpr ⟨cALL_i328, List.forall_mem_cons.mpr ⟨cALL_i329, List.forall_mem_cons.mpr ⟨cALL_i330, List.forall_mem_cons.mpr ⟨cALL_i331, List.forall_mem_cons.mpr ⟨cALL_i332, List.forall_mem_cons.mpr ⟨cALL_i333, List.forall_mem_cons.mpr ⟨cALL_i334, List.forall_mem_cons.mpr ⟨cALL_i335, List.forall_mem_cons.mpr ⟨cALL_i336, List.forall_mem_cons.mpr ⟨cALL_i337, List.forall_mem_cons.mpr ⟨cALL_i338, List.forall_mem_cons.mpr ⟨cALL_i339, List.forall_mem_cons.mpr ⟨cALL_i340, List.forall_mem_cons.mpr ⟨cALL_i341, List.forall_mem_cons.mpr ⟨cALL_i342, List.forall_mem_cons.mpr ⟨cALL_i343, List.forall_mem_cons.mpr ⟨cALL_i344, List.forall_mem_cons.mpr ⟨cALL_i345, List.forall_mem_cons.mpr ⟨cALL_i346, List.forall_mem_cons.mpr ⟨cALL_i347, List.forall_mem_cons.mpr ⟨cALL_i348, List.forall_mem_cons.mpr ⟨cALL_i349, List.forall_mem_cons.mpr ⟨cALL_i350, List.forall_mem_cons.mpr ⟨cALL_i351, List.forall_mem_cons.mpr ⟨cALL_i352, List.forall_mem_cons.mpr ⟨cALL_i353, List.forall_mem_cons.mpr ⟨cALL_i354, List.forall_mem_cons.mpr ⟨cALL_i355, List.forall_mem_cons.mpr ⟨cALL_i356, List.forall_mem_cons.mpr ⟨cALL_i357, List.forall_mem_cons.mpr ⟨cALL_i358, List.forall_mem_cons.mpr ⟨cALL_i359, List.forall_mem_cons.mpr ⟨cALL_i360, List.forall_mem_cons.mpr ⟨cALL_i361, List.forall_mem_cons.mpr ⟨cALL_i362, List.forall_mem_cons.mpr ⟨cALL_i363, List.forall_mem_cons.mpr ⟨cALL_i364, List.forall_mem_cons.mpr ⟨cALL_i365, List.forall_mem_cons.mpr ⟨cALL_i366, List.forall_mem_cons.mpr ⟨cALL_i367, List.forall_mem_cons.mpr ⟨cALL_i368, List.forall_mem_cons.mpr ⟨cALL_i369, List.forall_mem_cons.mpr ⟨cALL_i370, List.forall_mem_cons.mpr ⟨cALL_i371, List.forall_mem_cons.mpr ⟨cALL_i372, List.forall_mem_cons.mpr ⟨cALL_i373, List.forall_mem_cons.mpr ⟨cALL_i374, List.forall_mem_cons.mpr ⟨cALL_i375, List.forall_mem_cons.mpr ⟨cALL_i376, List.forall_mem_cons.mpr ⟨cALL_i377, List.forall_mem_cons.mpr ⟨cALL_i378, List.forall_mem_cons.mpr ⟨cALL_i379, List.forall_mem_cons.mpr ⟨cALL_i380, List.forall_mem_cons.mpr ⟨cALL_i381, List.forall_mem_cons.mpr ⟨cALL_i382, List.forall_mem_cons.mpr ⟨cALL_i383, List.forall_mem_cons.mpr ⟨cALL_i384, List.forall_mem_cons.mpr ⟨cALL_i385, List.forall_mem_cons.mpr ⟨cALL_i386, List.forall_mem_cons.mpr ⟨cALL_i387, List.forall_mem_cons.mpr ⟨cALL_i388, List.forall_mem_cons.mpr ⟨cALL_i389, List.forall_mem_cons.mpr ⟨cALL_i390, List.forall_mem_cons.mpr ⟨cALL_i391, List.forall_mem_cons.mpr ⟨cALL_i392, List.forall_mem_cons.mpr ⟨cALL_i393, List.forall_mem_cons.mpr ⟨cALL_i394, List.forall_mem_cons.mpr ⟨cALL_i395, List.forall_mem_cons.mpr ⟨cALL_i396, List.forall_mem_cons.mpr ⟨cALL_i397, List.forall_mem_cons.mpr ⟨cALL_i398, List.forall_mem_cons.mpr ⟨cALL_i399, List.forall_mem_cons.mpr ⟨cALL_i400, List.forall_mem_cons.mpr ⟨cALL_i401, List.forall_mem_cons.mpr ⟨cALL_i402, List.forall_mem_cons.mpr ⟨cALL_i403, List.forall_mem_cons.mpr ⟨cALL_i404, List.forall_mem_cons.mpr ⟨cALL_i405, List.forall_mem_cons.mpr ⟨cALL_i406, List.forall_mem_cons.mpr ⟨cALL_i407, List.forall_mem_cons.mpr ⟨cALL_i408, List.forall_mem_cons.mpr ⟨cALL_i409, List.forall_mem_cons.mpr ⟨cALL_i410, List.forall_mem_cons.mpr ⟨cALL_i411, List.forall_mem_cons.mpr ⟨cALL_i412, List.forall_mem_cons.mpr ⟨cALL_i413, List.forall_mem_cons.mpr ⟨cALL_i414, List.forall_mem_cons.mpr ⟨cALL_i415, List.forall_mem_cons.mpr ⟨cALL_i416, List.forall_mem_cons.mpr ⟨cALL_i417, List.forall_mem_cons.mpr ⟨cALL_i418, List.forall_mem_cons.mpr ⟨cALL_i419, List.forall_mem_cons.mpr ⟨cALL_i420, List.forall_mem_cons.mpr ⟨cALL_i421, List.forall_mem_cons.mpr ⟨cALL_i422, List.forall_mem_cons.mpr ⟨cALL_i423, List.forall_mem_cons.mpr ⟨cALL_i424, List.forall_mem_cons.mpr ⟨cALL_i425, List.forall_mem_cons.mpr ⟨cALL_i426, List.forall_mem_cons.mpr ⟨cALL_i427, List.forall_mem_cons.mpr ⟨cALL_i428, List.forall_mem_cons.mpr ⟨cALL_i429, List.forall_mem_cons.mpr ⟨cALL_i430, List.forall_mem_cons.mpr ⟨cALL_i431, List.forall_mem_cons.mpr ⟨cALL_i432, List.forall_mem_cons.mpr ⟨cALL_i433, List.forall_mem_cons.mpr ⟨cALL_i434, List.forall_mem_cons.mpr ⟨cALL_i435, List.forall_mem_cons.mpr ⟨cALL_i436, List.forall_mem_cons.mpr ⟨cALL_i437, List.forall_mem_cons.mpr ⟨cALL_i438, List.forall_mem_cons.mpr ⟨cALL_i439, List.forall_mem_cons.mpr ⟨cALL_i440, List.forall_mem_cons.mpr ⟨cALL_i441, List.forall_mem_cons.mpr ⟨cALL_i442, List.forall_mem_cons.mpr ⟨cALL_i443, List.forall_mem_cons.mpr ⟨cALL_i444, List.forall_mem_cons.mpr ⟨cALL_i445, List.forall_mem_cons.mpr ⟨cALL_i446, List.forall_mem_cons.mpr ⟨cALL_i447, List.forall_mem_cons.mpr ⟨cALL_i448, List.forall_mem_cons.mpr ⟨cALL_i449, List.forall_mem_cons.mpr ⟨cALL_i450, List.forall_mem_cons.mpr ⟨cALL_i451, List.forall_mem_cons.mpr ⟨cALL_i452, List.forall_mem_cons.mpr ⟨cALL_i453, List.forall_mem_cons.mpr ⟨cALL_i454, List.forall_mem_cons.mpr ⟨cALL_i455, List.forall_mem_cons.mpr ⟨cALL_i456, List.forall_mem_cons.mpr ⟨cALL_i457, List.forall_mem_cons.mpr ⟨cALL_i458, List.forall_mem_cons.mpr ⟨cALL_i459, List.forall_mem_cons.mpr ⟨cALL_i460, List.forall_mem_cons.mpr ⟨cALL_i461, List.forall_mem_cons.mpr ⟨cALL_i462, List.forall_mem_cons.mpr ⟨cALL_i463, List.forall_mem_cons.mpr ⟨cALL_i464, List.forall_mem_cons.mpr ⟨cALL_i465, List.forall_mem_cons.mpr ⟨cALL_i466, List.forall_mem_cons.mpr ⟨cALL_i467, List.forall_mem_cons.mpr ⟨cALL_i468, List.forall_mem_cons.mpr ⟨cALL_i469, List.forall_mem_cons.mpr ⟨cALL_i470, List.forall_mem_cons.mpr ⟨cALL_i471, List.forall_mem_cons.mpr ⟨cALL_i472, List.forall_mem_cons.mpr ⟨cALL_i473, List.forall_mem_cons.mpr ⟨cALL_i474, List.forall_mem_cons.mpr ⟨cALL_i475, List.forall_mem_cons.mpr ⟨cALL_i476, List.forall_mem_cons.mpr ⟨cALL_i477, List.forall_mem_cons.mpr ⟨cALL_i478, List.forall_mem_cons.mpr ⟨cALL_i479, List.forall_mem_cons.mpr ⟨cALL_i480, List.forall_mem_cons.mpr ⟨cALL_i481, List.forall_mem_cons.mpr ⟨cALL_i482, List.forall_mem_cons.mpr ⟨cALL_i483, List.forall_mem_cons.mpr ⟨cALL_i484, List.forall_mem_cons.mpr ⟨cALL_i485, List.forall_mem_cons.mpr ⟨cALL_i486, List.forall_mem_cons.mpr ⟨cALL_i487, List.forall_mem_cons.mpr ⟨cALL_i488, List.forall_mem_cons.mpr ⟨cALL_i489, List.forall_mem_cons.mpr ⟨cALL_i490, List.forall_mem_cons.mpr ⟨cALL_i491, List.forall_mem_cons.mpr ⟨cALL_i492, List.forall_mem_cons.mpr ⟨cALL_i493, List.forall_mem_cons.mpr ⟨cALL_i494, List.forall_mem_cons.mpr ⟨cALL_i495, List.forall_mem_cons.mpr ⟨cALL_i496, List.forall_mem_cons.mpr ⟨cALL_i497, List.forall_mem_cons.mpr ⟨cALL_i498, List.forall_mem_cons.mpr ⟨cALL_i499, List.forall_mem_cons.mpr ⟨cALL_i500, List.forall_mem_cons.mpr ⟨cALL_i501, List.forall_mem_cons.mpr ⟨cALL_i502, List.forall_mem_cons.mpr ⟨cALL_i503, List.forall_mem_cons.mpr ⟨cALL_i504, List.forall_mem_cons.mpr ⟨cALL_i505, List.forall_mem_cons.mpr ⟨cALL_i506, List.forall_mem_cons.mpr ⟨cALL_i507, List.forall_mem_cons.mpr ⟨cALL_i508, List.forall_mem_cons.mpr ⟨cALL_i509, List.forall_mem_cons.mpr ⟨cALL_i510, List.forall_mem_cons.mpr ⟨cALL_i511, List.forall_mem_cons.mpr ⟨cALL_i512, List.forall_mem_cons.mpr ⟨cALL_i513, List.forall_mem_cons.mpr ⟨cALL_i514, List.forall_mem_cons.mpr ⟨cALL_i515, List.forall_mem_cons.mpr ⟨cALL_i516, List.forall_mem_cons.mpr ⟨cALL_i517, List.forall_mem_cons.mpr ⟨cALL_i518, List.forall_mem_cons.mpr ⟨cALL_i519, List.forall_mem_cons.mpr ⟨cALL_i520, List.forall_mem_cons.mpr ⟨cALL_i521, List.forall_mem_cons.mpr ⟨cALL_i522, List.forall_mem_cons.mpr ⟨cALL_i523, List.forall_mem_cons.mpr ⟨cALL_i524, List.forall_mem_cons.mpr ⟨cALL_i525, List.forall_mem_cons.mpr ⟨cALL_i526, List.forall_mem_cons.mpr ⟨cALL_i527, List.forall_mem_cons.mpr ⟨cALL_i528, List.forall_mem_cons.mpr ⟨cALL_i529, List.forall_mem_cons.mpr ⟨cALL_i530, List.forall_mem_cons.mpr ⟨cALL_i531, List.forall_mem_cons.mpr ⟨cALL_i532, List.forall_mem_cons.mpr ⟨cALL_i533, List.forall_mem_cons.mpr ⟨cALL_i534, List.forall_mem_cons.mpr ⟨cALL_i535, List.forall_mem_cons.mpr ⟨cALL_i536, List.forall_mem_cons.mpr ⟨cALL_i537, List.forall_mem_cons.mpr ⟨cALL_i538, List.forall_mem_cons.mpr ⟨cALL_i539, List.forall_mem_cons.mpr ⟨cALL_i540, fun _ h => absurd h List.not_mem_nil⟩⟩⟩⟩⟩⟩⟩⟩⟩⟩⟩⟩⟩⟩⟩⟩⟩⟩⟩⟩⟩⟩⟩⟩⟩⟩⟩⟩⟩⟩⟩⟩⟩⟩⟩⟩⟩⟩⟩⟩⟩⟩⟩⟩⟩⟩⟩⟩⟩⟩⟩⟩⟩⟩⟩⟩⟩⟩⟩⟩⟩⟩⟩⟩⟩⟩⟩⟩⟩⟩⟩⟩⟩⟩⟩⟩⟩⟩⟩⟩⟩⟩⟩⟩⟩⟩⟩⟩⟩⟩⟩⟩⟩⟩⟩⟩⟩⟩⟩⟩⟩⟩⟩⟩⟩⟩⟩⟩⟩⟩⟩⟩⟩⟩⟩⟩⟩⟩⟩⟩⟩⟩⟩⟩⟩⟩⟩⟩⟩⟩⟩⟩⟩⟩⟩⟩⟩⟩⟩⟩⟩⟩⟩⟩⟩⟩⟩⟩⟩⟩⟩⟩⟩⟩⟩⟩⟩⟩⟩⟩⟩⟩⟩⟩⟩⟩⟩⟩⟩⟩⟩⟩⟩⟩⟩⟩⟩⟩⟩⟩⟩⟩⟩⟩⟩⟩⟩⟩⟩⟩⟩⟩⟩⟩⟩⟩⟩⟩⟩⟩⟩⟩⟩⟩⟩⟩⟩⟩⟩⟩⟩⟩⟩⟩⟩⟩⟩⟩⟩⟩⟩⟩⟩⟩⟩⟩⟩⟩⟩⟩⟩⟩⟩⟩⟩⟩⟩⟩⟩⟩⟩⟩⟩⟩⟩⟩⟩⟩⟩⟩⟩⟩⟩⟩⟩⟩⟩⟩⟩⟩⟩⟩⟩⟩⟩⟩⟩⟩⟩⟩⟩⟩⟩⟩⟩⟩⟩⟩⟩⟩⟩⟩⟩⟩⟩⟩⟩⟩⟩⟩⟩⟩⟩⟩⟩⟩⟩⟩⟩⟩⟩⟩⟩⟩⟩⟩⟩⟩⟩⟩⟩⟩⟩⟩⟩⟩⟩⟩⟩⟩⟩⟩⟩⟩⟩⟩⟩⟩⟩⟩⟩⟩⟩⟩⟩⟩⟩⟩⟩⟩⟩⟩⟩⟩⟩⟩⟩⟩⟩⟩⟩⟩⟩⟩⟩⟩⟩⟩⟩⟩⟩⟩⟩⟩⟩⟩⟩⟩⟩⟩⟩⟩⟩⟩⟩⟩⟩⟩⟩⟩⟩⟩⟩⟩⟩⟩⟩⟩⟩⟩⟩⟩⟩⟩⟩⟩⟩⟩⟩⟩⟩⟩⟩⟩⟩⟩⟩⟩⟩⟩⟩⟩⟩⟩⟩⟩⟩⟩⟩⟩⟩⟩⟩⟩⟩⟩⟩⟩⟩⟩⟩⟩⟩⟩⟩⟩⟩⟩⟩⟩⟩⟩⟩⟩⟩⟩⟩⟩⟩⟩⟩⟩⟩⟩⟩⟩⟩⟩⟩⟩⟩⟩⟩⟩⟩⟩⟩⟩⟩⟩⟩⟩⟩⟩⟩⟩⟩⟩⟩⟩⟩⟩⟩⟩⟩⟩⟩⟩⟩⟩⟩⟩⟩⟩⟩⟩⟩⟩⟩⟩⟩⟩⟩⟩⟩⟩⟩⟩⟩⟩⟩⟩⟩⟩⟩⟩⟩⟩⟩⟩⟩⟩⟩⟩⟩⟩⟩⟩⟩⟩⟩⟩⟩⟩⟩⟩⟩⟩⟩⟩⟩
set_option maxRecDepth 100000 in
theorem lw0_i0 : (Jvm.Cond.initialized "DesignSpacesLaw") ∈ lw_tbl := List.mem_of_getElem? (i := 27) rfl
set_option maxRecDepth 100000 in
theorem lw0_i1 : (Jvm.Cond.classLink "DesignSpacesLaw" (8 : Nat) "DesignSpaces") ∈ lw_tbl := List.mem_of_getElem? (i := 45) rfl
set_option maxRecDepth 100000 in
theorem lw0_i2 : (Jvm.Cond.methodLink "DesignSpacesLaw" (80 : Nat) ({ cls := "DesignSpaces", name := "<init>", desc := "(I)V" } : Jvm.MethodName)) ∈ lw_tbl := List.mem_of_getElem? (i := 47) rfl
set_option maxRecDepth 100000 in
theorem lw0_i3 : (Jvm.Cond.methodLink "DesignSpacesLaw" (119 : Nat) ({ cls := "DesignSpaces", name := "undominated", desc := "()I" } : Jvm.MethodName)) ∈ lw_tbl := List.mem_of_getElem? (i := 268) rfl
set_option maxRecDepth 100000 in
theorem lw0_i4 : (Jvm.Cond.methodLink "DesignSpacesLaw" (129 : Nat) ({ cls := "DesignSpaces", name := "looked", desc := "()I" } : Jvm.MethodName)) ∈ lw_tbl := List.mem_of_getElem? (i := 304) rfl
set_option maxRecDepth 100000 in
theorem lw0_i5 : (Jvm.Cond.methodLink "DesignSpacesLaw" (146 : Nat) ({ cls := "DesignSpaces", name := "lowest", desc := "()I" } : Jvm.MethodName)) ∈ lw_tbl := List.mem_of_getElem? (i := 308) rfl
set_option maxRecDepth 100000 in
theorem lw0_i6 : (Jvm.Cond.methodLink "DesignSpacesLaw" (156 : Nat) ({ cls := "DesignSpaces", name := "count", desc := "(I)I" } : Jvm.MethodName)) ∈ lw_tbl := List.mem_of_getElem? (i := 312) rfl
set_option maxRecDepth 100000 in
theorem lw0_i7 : (Jvm.Cond.methodLink "DesignSpacesLaw" (74 : Nat) ({ cls := "DesignSpacesLaw", name := "cell", desc := "([II)I" } : Jvm.MethodName)) ∈ lw_tbl := List.mem_of_getElem? (i := 324) rfl
set_option maxRecDepth 100000 in
theorem lw0_i8 : (Jvm.Cond.static ({ cls := "DesignSpacesLaw", name := "cell", desc := "([II)I" } : Jvm.MethodName)) ∈ lw_tbl := List.mem_of_getElem? (i := 325) rfl
set_option maxRecDepth 100000 in
theorem lw0_i9 : (Jvm.Cond.code ({ cls := "DesignSpacesLaw", name := "cell", desc := "([II)I" } : Jvm.MethodName) method_2_code (2 : Nat) (Option.some Jvm.ClassFile.FieldType.int)) ∈ lw_tbl := List.mem_of_getElem? (i := 326) rfl
set_option maxRecDepth 100000 in
theorem lw0_i10 : (Jvm.Cond.methodLink "DesignSpacesLaw" (86 : Nat) ({ cls := "DesignSpacesLaw", name := "choice", desc := "(LDesignSpaces;I[J)I" } : Jvm.MethodName)) ∈ lw_tbl := List.mem_of_getElem? (i := 327) rfl
set_option maxRecDepth 100000 in
theorem lw0_i11 : (Jvm.Cond.static ({ cls := "DesignSpacesLaw", name := "choice", desc := "(LDesignSpaces;I[J)I" } : Jvm.MethodName)) ∈ lw_tbl := List.mem_of_getElem? (i := 328) rfl
set_option maxRecDepth 100000 in
theorem lw0_i12 : (Jvm.Cond.codeWith ({ cls := "DesignSpacesLaw", name := "choice", desc := "(LDesignSpaces;I[J)I" } : Jvm.MethodName) method_3_code (4 : Nat) (Option.some Jvm.ClassFile.FieldType.int) [((0 : Nat), (9 : Nat), (12 : Nat), (13 : Nat)), ((0 : Nat), (9 : Nat), (15 : Nat), (15 : Nat))]) ∈ lw_tbl := List.mem_of_getElem? (i := 329) rfl
set_option maxRecDepth 100000 in
theorem lw0_i13 : (Jvm.Cond.classLink "DesignSpacesLaw" (13 : Nat) "java/lang/IllegalArgumentException") ∈ lw_tbl := List.mem_of_getElem? (i := 330) rfl
set_option maxRecDepth 100000 in
theorem lw0_i14 : (Jvm.Cond.classLink "DesignSpacesLaw" (15 : Nat) "java/lang/UnsupportedOperationException") ∈ lw_tbl := List.mem_of_getElem? (i := 331) rfl
set_option maxRecDepth 100000 in
theorem lw0_i15 : (Jvm.Cond.methodLink "DesignSpacesLaw" (7 : Nat) ({ cls := "DesignSpaces", name := "choice", desc := "(I)I" } : Jvm.MethodName)) ∈ lw_tbl := List.mem_of_getElem? (i := 332) rfl
set_option maxRecDepth 100000 in
theorem lw0_i16 : (Jvm.Cond.methodLink "DesignSpacesLaw" (94 : Nat) ({ cls := "DesignSpacesLaw", name := "term", desc := "(LDesignSpaces;IIIIII[J)I" } : Jvm.MethodName)) ∈ lw_tbl := List.mem_of_getElem? (i := 445) rfl
set_option maxRecDepth 100000 in
theorem lw0_i17 : (Jvm.Cond.static ({ cls := "DesignSpacesLaw", name := "term", desc := "(LDesignSpaces;IIIIII[J)I" } : Jvm.MethodName)) ∈ lw_tbl := List.mem_of_getElem? (i := 446) rfl
set_option maxRecDepth 100000 in
theorem lw0_i18 : (Jvm.Cond.codeWith ({ cls := "DesignSpacesLaw", name := "term", desc := "(LDesignSpaces;IIIIII[J)I" } : Jvm.MethodName) method_4_code (9 : Nat) (Option.some Jvm.ClassFile.FieldType.int) [((0 : Nat), (18 : Nat), (21 : Nat), (21 : Nat)), ((0 : Nat), (18 : Nat), (25 : Nat), (13 : Nat)), ((0 : Nat), (18 : Nat), (29 : Nat), (15 : Nat))]) ∈ lw_tbl := List.mem_of_getElem? (i := 447) rfl
set_option maxRecDepth 100000 in
theorem lw0_i19 : (Jvm.Cond.classLink "DesignSpacesLaw" (21 : Nat) "java/lang/IndexOutOfBoundsException") ∈ lw_tbl := List.mem_of_getElem? (i := 448) rfl
set_option maxRecDepth 100000 in
theorem lw0_i20 : (Jvm.Cond.methodLink "DesignSpacesLaw" (17 : Nat) ({ cls := "DesignSpaces", name := "term", desc := "(IIIIII)I" } : Jvm.MethodName)) ∈ lw_tbl := List.mem_of_getElem? (i := 449) rfl
set_option maxRecDepth 100000 in
theorem lw0_i21 : (Jvm.Cond.methodLink "DesignSpacesLaw" (98 : Nat) ({ cls := "DesignSpacesLaw", name := "rule", desc := "(LDesignSpaces;IIII[J)I" } : Jvm.MethodName)) ∈ lw_tbl := List.mem_of_getElem? (i := 500) rfl
set_option maxRecDepth 100000 in
theorem lw0_i22 : (Jvm.Cond.static ({ cls := "DesignSpacesLaw", name := "rule", desc := "(LDesignSpaces;IIII[J)I" } : Jvm.MethodName)) ∈ lw_tbl := List.mem_of_getElem? (i := 501) rfl
set_option maxRecDepth 100000 in
theorem lw0_i23 : (Jvm.Cond.codeWith ({ cls := "DesignSpacesLaw", name := "rule", desc := "(LDesignSpaces;IIII[J)I" } : Jvm.MethodName) method_5_code (7 : Nat) (Option.some Jvm.ClassFile.FieldType.int) [((0 : Nat), (14 : Nat), (17 : Nat), (21 : Nat)), ((0 : Nat), (14 : Nat), (21 : Nat), (13 : Nat)), ((0 : Nat), (14 : Nat), (25 : Nat), (15 : Nat))]) ∈ lw_tbl := List.mem_of_getElem? (i := 502) rfl
set_option maxRecDepth 100000 in
theorem lw0_i24 : (Jvm.Cond.methodLink "DesignSpacesLaw" (23 : Nat) ({ cls := "DesignSpaces", name := "rule", desc := "(IIII)I" } : Jvm.MethodName)) ∈ lw_tbl := List.mem_of_getElem? (i := 503) rfl
set_option maxRecDepth 100000 in
theorem lw0_i25 : (Jvm.Cond.methodLink "DesignSpacesLaw" (102 : Nat) ({ cls := "DesignSpacesLaw", name := "limit", desc := "(LDesignSpaces;IZI[J)I" } : Jvm.MethodName)) ∈ lw_tbl := List.mem_of_getElem? (i := 514) rfl
set_option maxRecDepth 100000 in
theorem lw0_i26 : (Jvm.Cond.static ({ cls := "DesignSpacesLaw", name := "limit", desc := "(LDesignSpaces;IZI[J)I" } : Jvm.MethodName)) ∈ lw_tbl := List.mem_of_getElem? (i := 515) rfl
set_option maxRecDepth 100000 in
theorem lw0_i27 : (Jvm.Cond.codeWith ({ cls := "DesignSpacesLaw", name := "limit", desc := "(LDesignSpaces;IZI[J)I" } : Jvm.MethodName) method_6_code (6 : Nat) (Option.some Jvm.ClassFile.FieldType.int) [((0 : Nat), (19 : Nat), (22 : Nat), (21 : Nat))]) ∈ lw_tbl := List.mem_of_getElem? (i := 516) rfl
set_option maxRecDepth 100000 in
theorem lw0_i28 : (Jvm.Cond.methodLink "DesignSpacesLaw" (27 : Nat) ({ cls := "DesignSpaces", name := "limit", desc := "(IZI)Z" } : Jvm.MethodName)) ∈ lw_tbl := List.mem_of_getElem? (i := 517) rfl
set_option maxRecDepth 100000 in
theorem lw0_i29 : (Jvm.Cond.methodLink "DesignSpacesLaw" (106 : Nat) ({ cls := "DesignSpacesLaw", name := "number", desc := "(LDesignSpaces;II[J)I" } : Jvm.MethodName)) ∈ lw_tbl := List.mem_of_getElem? (i := 522) rfl
set_option maxRecDepth 100000 in
theorem lw0_i30 : (Jvm.Cond.static ({ cls := "DesignSpacesLaw", name := "number", desc := "(LDesignSpaces;II[J)I" } : Jvm.MethodName)) ∈ lw_tbl := List.mem_of_getElem? (i := 523) rfl
set_option maxRecDepth 100000 in
theorem lw0_i31 : (Jvm.Cond.codeWith ({ cls := "DesignSpacesLaw", name := "number", desc := "(LDesignSpaces;II[J)I" } : Jvm.MethodName) method_7_code (5 : Nat) (Option.some Jvm.ClassFile.FieldType.int) [((0 : Nat), (10 : Nat), (13 : Nat), (21 : Nat))]) ∈ lw_tbl := List.mem_of_getElem? (i := 524) rfl
set_option maxRecDepth 100000 in
theorem lw0_i32 : (Jvm.Cond.methodLink "DesignSpacesLaw" (31 : Nat) ({ cls := "DesignSpaces", name := "number", desc := "(II)I" } : Jvm.MethodName)) ∈ lw_tbl := List.mem_of_getElem? (i := 525) rfl
set_option maxRecDepth 100000 in
theorem lw0_i33 : (Jvm.Cond.methodLink "DesignSpacesLaw" (110 : Nat) ({ cls := "DesignSpacesLaw", name := "value", desc := "(LDesignSpaces;II[J)I" } : Jvm.MethodName)) ∈ lw_tbl := List.mem_of_getElem? (i := 535) rfl
set_option maxRecDepth 100000 in
theorem lw0_i34 : (Jvm.Cond.static ({ cls := "DesignSpacesLaw", name := "value", desc := "(LDesignSpaces;II[J)I" } : Jvm.MethodName)) ∈ lw_tbl := List.mem_of_getElem? (i := 536) rfl
set_option maxRecDepth 100000 in
theorem lw0_i35 : (Jvm.Cond.codeWith ({ cls := "DesignSpacesLaw", name := "value", desc := "(LDesignSpaces;II[J)I" } : Jvm.MethodName) method_8_code (5 : Nat) (Option.some Jvm.ClassFile.FieldType.int) [((0 : Nat), (10 : Nat), (13 : Nat), (21 : Nat))]) ∈ lw_tbl := List.mem_of_getElem? (i := 537) rfl
set_option maxRecDepth 100000 in
theorem lw0_i36 : (Jvm.Cond.methodLink "DesignSpacesLaw" (35 : Nat) ({ cls := "DesignSpaces", name := "value", desc := "(II)I" } : Jvm.MethodName)) ∈ lw_tbl := List.mem_of_getElem? (i := 538) rfl
set_option maxRecDepth 100000 in
theorem lw0_i37 : (Jvm.Cond.methodLink "DesignSpacesLaw" (113 : Nat) ({ cls := "DesignSpacesLaw", name := "legal", desc := "(LDesignSpaces;I[J)I" } : Jvm.MethodName)) ∈ lw_tbl := List.mem_of_getElem? (i := 545) rfl
set_option maxRecDepth 100000 in
theorem lw0_i38 : (Jvm.Cond.static ({ cls := "DesignSpacesLaw", name := "legal", desc := "(LDesignSpaces;I[J)I" } : Jvm.MethodName)) ∈ lw_tbl := List.mem_of_getElem? (i := 546) rfl
set_option maxRecDepth 100000 in
theorem lw0_i39 : (Jvm.Cond.codeWith ({ cls := "DesignSpacesLaw", name := "legal", desc := "(LDesignSpaces;I[J)I" } : Jvm.MethodName) method_9_code (4 : Nat) (Option.some Jvm.ClassFile.FieldType.int) [((0 : Nat), (16 : Nat), (19 : Nat), (21 : Nat))]) ∈ lw_tbl := List.mem_of_getElem? (i := 547) rfl
set_option maxRecDepth 100000 in
theorem lw0_i40 : (Jvm.Cond.methodLink "DesignSpacesLaw" (38 : Nat) ({ cls := "DesignSpaces", name := "legal", desc := "(I)Z" } : Jvm.MethodName)) ∈ lw_tbl := List.mem_of_getElem? (i := 548) rfl
set_option maxRecDepth 100000 in
theorem lw0_i41 : (Jvm.Cond.methodLink "DesignSpacesLaw" (116 : Nat) ({ cls := "DesignSpacesLaw", name := "beats", desc := "(LDesignSpaces;II[J)I" } : Jvm.MethodName)) ∈ lw_tbl := List.mem_of_getElem? (i := 554) rfl
set_option maxRecDepth 100000 in
theorem lw0_i42 : (Jvm.Cond.static ({ cls := "DesignSpacesLaw", name := "beats", desc := "(LDesignSpaces;II[J)I" } : Jvm.MethodName)) ∈ lw_tbl := List.mem_of_getElem? (i := 555) rfl
set_option maxRecDepth 100000 in
theorem lw0_i43 : (Jvm.Cond.codeWith ({ cls := "DesignSpacesLaw", name := "beats", desc := "(LDesignSpaces;II[J)I" } : Jvm.MethodName) method_10_code (5 : Nat) (Option.some Jvm.ClassFile.FieldType.int) [((0 : Nat), (17 : Nat), (20 : Nat), (21 : Nat)), ((0 : Nat), (17 : Nat), (24 : Nat), (13 : Nat))]) ∈ lw_tbl := List.mem_of_getElem? (i := 556) rfl
set_option maxRecDepth 100000 in
theorem lw0_i44 : (Jvm.Cond.methodLink "DesignSpacesLaw" (42 : Nat) ({ cls := "DesignSpaces", name := "beats", desc := "(II)Z" } : Jvm.MethodName)) ∈ lw_tbl := List.mem_of_getElem? (i := 557) rfl
set_option maxRecDepth 100000 in
theorem lw0_i45 : (Jvm.Cond.methodLink "DesignSpacesLaw" (123 : Nat) ({ cls := "DesignSpacesLaw", name := "at", desc := "(LDesignSpaces;I[J)I" } : Jvm.MethodName)) ∈ lw_tbl := List.mem_of_getElem? (i := 564) rfl
set_option maxRecDepth 100000 in
theorem lw0_i46 : (Jvm.Cond.static ({ cls := "DesignSpacesLaw", name := "at", desc := "(LDesignSpaces;I[J)I" } : Jvm.MethodName)) ∈ lw_tbl := List.mem_of_getElem? (i := 565) rfl
set_option maxRecDepth 100000 in
theorem lw0_i47 : (Jvm.Cond.codeWith ({ cls := "DesignSpacesLaw", name := "at", desc := "(LDesignSpaces;I[J)I" } : Jvm.MethodName) method_11_code (4 : Nat) (Option.some Jvm.ClassFile.FieldType.int) [((0 : Nat), (9 : Nat), (12 : Nat), (21 : Nat))]) ∈ lw_tbl := List.mem_of_getElem? (i := 566) rfl
set_option maxRecDepth 100000 in
theorem lw0_i48 : (Jvm.Cond.methodLink "DesignSpacesLaw" (46 : Nat) ({ cls := "DesignSpaces", name := "at", desc := "(I)I" } : Jvm.MethodName)) ∈ lw_tbl := List.mem_of_getElem? (i := 567) rfl
set_option maxRecDepth 100000 in
theorem lw0_i49 : (Jvm.Cond.methodLink "DesignSpacesLaw" (126 : Nat) ({ cls := "DesignSpacesLaw", name := "best", desc := "(LDesignSpaces;I[J)I" } : Jvm.MethodName)) ∈ lw_tbl := List.mem_of_getElem? (i := 572) rfl
set_option maxRecDepth 100000 in
theorem lw0_i50 : (Jvm.Cond.static ({ cls := "DesignSpacesLaw", name := "best", desc := "(LDesignSpaces;I[J)I" } : Jvm.MethodName)) ∈ lw_tbl := List.mem_of_getElem? (i := 573) rfl
set_option maxRecDepth 100000 in
theorem lw0_i51 : (Jvm.Cond.codeWith ({ cls := "DesignSpacesLaw", name := "best", desc := "(LDesignSpaces;I[J)I" } : Jvm.MethodName) method_12_code (4 : Nat) (Option.some Jvm.ClassFile.FieldType.int) [((0 : Nat), (9 : Nat), (12 : Nat), (21 : Nat))]) ∈ lw_tbl := List.mem_of_getElem? (i := 574) rfl
set_option maxRecDepth 100000 in
theorem lw0_i52 : (Jvm.Cond.methodLink "DesignSpacesLaw" (49 : Nat) ({ cls := "DesignSpaces", name := "best", desc := "(I)I" } : Jvm.MethodName)) ∈ lw_tbl := List.mem_of_getElem? (i := 575) rfl
set_option maxRecDepth 100000 in
theorem lw0_i53 : (Jvm.Cond.methodLink "DesignSpacesLaw" (133 : Nat) ({ cls := "DesignSpacesLaw", name := "bound", desc := "(LDesignSpaces;III[J)I" } : Jvm.MethodName)) ∈ lw_tbl := List.mem_of_getElem? (i := 621) rfl
set_option maxRecDepth 100000 in
theorem lw0_i54 : (Jvm.Cond.static ({ cls := "DesignSpacesLaw", name := "bound", desc := "(LDesignSpaces;III[J)I" } : Jvm.MethodName)) ∈ lw_tbl := List.mem_of_getElem? (i := 622) rfl
set_option maxRecDepth 100000 in
theorem lw0_i55 : (Jvm.Cond.codeWith ({ cls := "DesignSpacesLaw", name := "bound", desc := "(LDesignSpaces;III[J)I" } : Jvm.MethodName) method_13_code (6 : Nat) (Option.some Jvm.ClassFile.FieldType.int) [((0 : Nat), (12 : Nat), (15 : Nat), (21 : Nat))]) ∈ lw_tbl := List.mem_of_getElem? (i := 623) rfl
set_option maxRecDepth 100000 in
theorem lw0_i56 : (Jvm.Cond.methodLink "DesignSpacesLaw" (52 : Nat) ({ cls := "DesignSpaces", name := "bound", desc := "(III)I" } : Jvm.MethodName)) ∈ lw_tbl := List.mem_of_getElem? (i := 624) rfl
set_option maxRecDepth 100000 in
theorem lw0_i57 : (Jvm.Cond.methodLink "DesignSpacesLaw" (137 : Nat) ({ cls := "DesignSpacesLaw", name := "near", desc := "(LDesignSpaces;II[J)I" } : Jvm.MethodName)) ∈ lw_tbl := List.mem_of_getElem? (i := 634) rfl
set_option maxRecDepth 100000 in
theorem lw0_i58 : (Jvm.Cond.static ({ cls := "DesignSpacesLaw", name := "near", desc := "(LDesignSpaces;II[J)I" } : Jvm.MethodName)) ∈ lw_tbl := List.mem_of_getElem? (i := 635) rfl
set_option maxRecDepth 100000 in
theorem lw0_i59 : (Jvm.Cond.codeWith ({ cls := "DesignSpacesLaw", name := "near", desc := "(LDesignSpaces;II[J)I" } : Jvm.MethodName) method_14_code (5 : Nat) (Option.some Jvm.ClassFile.FieldType.int) [((0 : Nat), (10 : Nat), (13 : Nat), (21 : Nat))]) ∈ lw_tbl := List.mem_of_getElem? (i := 636) rfl
set_option maxRecDepth 100000 in
theorem lw0_i60 : (Jvm.Cond.methodLink "DesignSpacesLaw" (56 : Nat) ({ cls := "DesignSpaces", name := "near", desc := "(II)I" } : Jvm.MethodName)) ∈ lw_tbl := List.mem_of_getElem? (i := 637) rfl
set_option maxRecDepth 100000 in
theorem lw0_i61 : (Jvm.Cond.methodLink "DesignSpacesLaw" (140 : Nat) ({ cls := "DesignSpacesLaw", name := "slack", desc := "(LDesignSpaces;I[J)I" } : Jvm.MethodName)) ∈ lw_tbl := List.mem_of_getElem? (i := 651) rfl
set_option maxRecDepth 100000 in
theorem lw0_i62 : (Jvm.Cond.static ({ cls := "DesignSpacesLaw", name := "slack", desc := "(LDesignSpaces;I[J)I" } : Jvm.MethodName)) ∈ lw_tbl := List.mem_of_getElem? (i := 652) rfl
set_option maxRecDepth 100000 in
theorem lw0_i63 : (Jvm.Cond.codeWith ({ cls := "DesignSpacesLaw", name := "slack", desc := "(LDesignSpaces;I[J)I" } : Jvm.MethodName) method_15_code (4 : Nat) (Option.some Jvm.ClassFile.FieldType.int) [((0 : Nat), (9 : Nat), (12 : Nat), (13 : Nat))]) ∈ lw_tbl := List.mem_of_getElem? (i := 653) rfl
set_option maxRecDepth 100000 in
theorem lw0_i64 : (Jvm.Cond.methodLink "DesignSpacesLaw" (59 : Nat) ({ cls := "DesignSpaces", name := "slack", desc := "(I)I" } : Jvm.MethodName)) ∈ lw_tbl := List.mem_of_getElem? (i := 654) rfl
set_option maxRecDepth 100000 in
theorem lw0_i65 : (Jvm.Cond.methodLink "DesignSpacesLaw" (143 : Nat) ({ cls := "DesignSpacesLaw", name := "walk", desc := "(LDesignSpaces;II[J)I" } : Jvm.MethodName)) ∈ lw_tbl := List.mem_of_getElem? (i := 659) rfl
set_option maxRecDepth 100000 in
theorem lw0_i66 : (Jvm.Cond.static ({ cls := "DesignSpacesLaw", name := "walk", desc := "(LDesignSpaces;II[J)I" } : Jvm.MethodName)) ∈ lw_tbl := List.mem_of_getElem? (i := 660) rfl
set_option maxRecDepth 100000 in
theorem lw0_i67 : (Jvm.Cond.codeWith ({ cls := "DesignSpacesLaw", name := "walk", desc := "(LDesignSpaces;II[J)I" } : Jvm.MethodName) method_16_code (5 : Nat) (Option.some Jvm.ClassFile.FieldType.int) [((0 : Nat), (10 : Nat), (13 : Nat), (21 : Nat)), ((0 : Nat), (10 : Nat), (17 : Nat), (13 : Nat)), ((0 : Nat), (10 : Nat), (21 : Nat), (65 : Nat))]) ∈ lw_tbl := List.mem_of_getElem? (i := 661) rfl
set_option maxRecDepth 100000 in
theorem lw0_i68 : (Jvm.Cond.classLink "DesignSpacesLaw" (65 : Nat) "java/lang/IllegalStateException") ∈ lw_tbl := List.mem_of_getElem? (i := 662) rfl
set_option maxRecDepth 100000 in
theorem lw0_i69 : (Jvm.Cond.methodLink "DesignSpacesLaw" (62 : Nat) ({ cls := "DesignSpaces", name := "walk", desc := "(II)I" } : Jvm.MethodName)) ∈ lw_tbl := List.mem_of_getElem? (i := 663) rfl
set_option maxRecDepth 100000 in
theorem lw0_i70 : (Jvm.Cond.methodLink "DesignSpacesLaw" (150 : Nat) ({ cls := "DesignSpacesLaw", name := "matters", desc := "(LDesignSpaces;II[J)I" } : Jvm.MethodName)) ∈ lw_tbl := List.mem_of_getElem? (i := 702) rfl
set_option maxRecDepth 100000 in
theorem lw0_i71 : (Jvm.Cond.static ({ cls := "DesignSpacesLaw", name := "matters", desc := "(LDesignSpaces;II[J)I" } : Jvm.MethodName)) ∈ lw_tbl := List.mem_of_getElem? (i := 703) rfl
set_option maxRecDepth 100000 in
theorem lw0_i72 : (Jvm.Cond.codeWith ({ cls := "DesignSpacesLaw", name := "matters", desc := "(LDesignSpaces;II[J)I" } : Jvm.MethodName) method_17_code (5 : Nat) (Option.some Jvm.ClassFile.FieldType.int) [((0 : Nat), (9 : Nat), (12 : Nat), (21 : Nat))]) ∈ lw_tbl := List.mem_of_getElem? (i := 704) rfl
set_option maxRecDepth 100000 in
theorem lw0_i73 : (Jvm.Cond.methodLink "DesignSpacesLaw" (67 : Nat) ({ cls := "DesignSpaces", name := "matters", desc := "(II)J" } : Jvm.MethodName)) ∈ lw_tbl := List.mem_of_getElem? (i := 705) rfl
set_option maxRecDepth 100000 in
theorem lw0_i74 : (Jvm.Cond.methodLink "DesignSpacesLaw" (153 : Nat) ({ cls := "DesignSpacesLaw", name := "sweep", desc := "(LDesignSpaces;I[J)I" } : Jvm.MethodName)) ∈ lw_tbl := List.mem_of_getElem? (i := 726) rfl
set_option maxRecDepth 100000 in
theorem lw0_i75 : (Jvm.Cond.static ({ cls := "DesignSpacesLaw", name := "sweep", desc := "(LDesignSpaces;I[J)I" } : Jvm.MethodName)) ∈ lw_tbl := List.mem_of_getElem? (i := 727) rfl
set_option maxRecDepth 100000 in
theorem lw0_i76 : (Jvm.Cond.codeWith ({ cls := "DesignSpacesLaw", name := "sweep", desc := "(LDesignSpaces;I[J)I" } : Jvm.MethodName) method_18_code (4 : Nat) (Option.some Jvm.ClassFile.FieldType.int) [((0 : Nat), (9 : Nat), (12 : Nat), (13 : Nat)), ((0 : Nat), (9 : Nat), (15 : Nat), (65 : Nat))]) ∈ lw_tbl := List.mem_of_getElem? (i := 728) rfl
set_option maxRecDepth 100000 in
theorem lw0_i77 : (Jvm.Cond.methodLink "DesignSpacesLaw" (71 : Nat) ({ cls := "DesignSpaces", name := "sweep", desc := "(I)I" } : Jvm.MethodName)) ∈ lw_tbl := List.mem_of_getElem? (i := 729) rfl
set_option maxRecDepth 100000 in
theorem lw0_i78 : (Jvm.Cond.classLink "DesignSpacesLaw" (83 : Nat) "DesignSpacesModel") ∈ lw_tbl := List.mem_of_getElem? (i := 743) rfl
set_option maxRecDepth 100000 in
theorem lw0_i79 : (Jvm.Cond.methodLink "DesignSpacesLaw" (85 : Nat) ({ cls := "DesignSpacesModel", name := "<init>", desc := "(I)V" } : Jvm.MethodName)) ∈ lw_tbl := List.mem_of_getElem? (i := 745) rfl
set_option maxRecDepth 100000 in
theorem lw0_i80 : (Jvm.Cond.methodLink "DesignSpacesLaw" (90 : Nat) ({ cls := "DesignSpacesModel", name := "thrown", desc := "()I" } : Jvm.MethodName)) ∈ lw_tbl := List.mem_of_getElem? (i := 838) rfl
set_option maxRecDepth 100000 in
theorem lw0_i81 : (Jvm.Cond.methodLink "DesignSpacesLaw" (89 : Nat) ({ cls := "DesignSpacesModel", name := "choice", desc := "(I)I" } : Jvm.MethodName)) ∈ lw_tbl := List.mem_of_getElem? (i := 842) rfl
set_option maxRecDepth 100000 in
theorem lw0_i82 : (Jvm.Cond.methodLink "DesignSpacesLaw" (97 : Nat) ({ cls := "DesignSpacesModel", name := "term", desc := "(IIIIII)I" } : Jvm.MethodName)) ∈ lw_tbl := List.mem_of_getElem? (i := 853) rfl
set_option maxRecDepth 100000 in
theorem lw0_i83 : (Jvm.Cond.methodLink "DesignSpacesLaw" (101 : Nat) ({ cls := "DesignSpacesModel", name := "rule", desc := "(IIII)I" } : Jvm.MethodName)) ∈ lw_tbl := List.mem_of_getElem? (i := 863) rfl
set_option maxRecDepth 100000 in
theorem lw0_i84 : (Jvm.Cond.methodLink "DesignSpacesLaw" (105 : Nat) ({ cls := "DesignSpacesModel", name := "limit", desc := "(IZI)Z" } : Jvm.MethodName)) ∈ lw_tbl := List.mem_of_getElem? (i := 867) rfl
set_option maxRecDepth 100000 in
theorem lw0_i85 : (Jvm.Cond.methodLink "DesignSpacesLaw" (109 : Nat) ({ cls := "DesignSpacesModel", name := "number", desc := "(II)I" } : Jvm.MethodName)) ∈ lw_tbl := List.mem_of_getElem? (i := 871) rfl
set_option maxRecDepth 100000 in
theorem lw0_i86 : (Jvm.Cond.methodLink "DesignSpacesLaw" (112 : Nat) ({ cls := "DesignSpacesModel", name := "value", desc := "(II)I" } : Jvm.MethodName)) ∈ lw_tbl := List.mem_of_getElem? (i := 903) rfl
set_option maxRecDepth 100000 in
theorem lw0_i87 : (Jvm.Cond.methodLink "DesignSpacesLaw" (115 : Nat) ({ cls := "DesignSpacesModel", name := "legal", desc := "(I)Z" } : Jvm.MethodName)) ∈ lw_tbl := List.mem_of_getElem? (i := 907) rfl
set_option maxRecDepth 100000 in
theorem lw0_i88 : (Jvm.Cond.methodLink "DesignSpacesLaw" (118 : Nat) ({ cls := "DesignSpacesModel", name := "beats", desc := "(II)Z" } : Jvm.MethodName)) ∈ lw_tbl := List.mem_of_getElem? (i := 911) rfl
set_option maxRecDepth 100000 in
theorem lw0_i89 : (Jvm.Cond.methodLink "DesignSpacesLaw" (122 : Nat) ({ cls := "DesignSpacesModel", name := "undominated", desc := "()I" } : Jvm.MethodName)) ∈ lw_tbl := List.mem_of_getElem? (i := 919) rfl
set_option maxRecDepth 100000 in
theorem lw0_i90 : (Jvm.Cond.methodLink "DesignSpacesLaw" (125 : Nat) ({ cls := "DesignSpacesModel", name := "at", desc := "(I)I" } : Jvm.MethodName)) ∈ lw_tbl := List.mem_of_getElem? (i := 927) rfl
set_option maxRecDepth 100000 in
theorem lw0_i91 : (Jvm.Cond.methodLink "DesignSpacesLaw" (128 : Nat) ({ cls := "DesignSpacesModel", name := "best", desc := "(I)I" } : Jvm.MethodName)) ∈ lw_tbl := List.mem_of_getElem? (i := 931) rfl
set_option maxRecDepth 100000 in
theorem lw0_i92 : (Jvm.Cond.methodLink "DesignSpacesLaw" (132 : Nat) ({ cls := "DesignSpacesModel", name := "looked", desc := "()I" } : Jvm.MethodName)) ∈ lw_tbl := List.mem_of_getElem? (i := 943) rfl
set_option maxRecDepth 100000 in
theorem lw0_i93 : (Jvm.Cond.methodLink "DesignSpacesLaw" (136 : Nat) ({ cls := "DesignSpacesModel", name := "bound", desc := "(III)I" } : Jvm.MethodName)) ∈ lw_tbl := List.mem_of_getElem? (i := 947) rfl
set_option maxRecDepth 100000 in
theorem lw0_i94 : (Jvm.Cond.methodLink "DesignSpacesLaw" (139 : Nat) ({ cls := "DesignSpacesModel", name := "near", desc := "(II)I" } : Jvm.MethodName)) ∈ lw_tbl := List.mem_of_getElem? (i := 951) rfl
set_option maxRecDepth 100000 in
theorem lw0_i95 : (Jvm.Cond.methodLink "DesignSpacesLaw" (142 : Nat) ({ cls := "DesignSpacesModel", name := "slack", desc := "(I)I" } : Jvm.MethodName)) ∈ lw_tbl := List.mem_of_getElem? (i := 963) rfl
set_option maxRecDepth 100000 in
theorem lw0_i96 : (Jvm.Cond.methodLink "DesignSpacesLaw" (145 : Nat) ({ cls := "DesignSpacesModel", name := "walk", desc := "(II)I" } : Jvm.MethodName)) ∈ lw_tbl := List.mem_of_getElem? (i := 967) rfl
set_option maxRecDepth 100000 in
theorem lw0_i97 : (Jvm.Cond.methodLink "DesignSpacesLaw" (149 : Nat) ({ cls := "DesignSpacesModel", name := "lowest", desc := "()I" } : Jvm.MethodName)) ∈ lw_tbl := List.mem_of_getElem? (i := 977) rfl
set_option maxRecDepth 100000 in
theorem lw0_i98 : (Jvm.Cond.methodLink "DesignSpacesLaw" (152 : Nat) ({ cls := "DesignSpacesModel", name := "matters", desc := "(II)J" } : Jvm.MethodName)) ∈ lw_tbl := List.mem_of_getElem? (i := 981) rfl
set_option maxRecDepth 100000 in
theorem lw0_i99 : (Jvm.Cond.methodLink "DesignSpacesLaw" (155 : Nat) ({ cls := "DesignSpacesModel", name := "sweep", desc := "(I)I" } : Jvm.MethodName)) ∈ lw_tbl := List.mem_of_getElem? (i := 985) rfl
set_option maxRecDepth 100000 in
theorem lw0_i100 : (Jvm.Cond.methodLink "DesignSpacesLaw" (159 : Nat) ({ cls := "DesignSpacesModel", name := "count", desc := "(I)I" } : Jvm.MethodName)) ∈ lw_tbl := List.mem_of_getElem? (i := 989) rfl
set_option maxRecDepth 100000 in
theorem lw0_i101 : (Jvm.Cond.arrayClass Jvm.ClassFile.FieldType.long) ∈ lw_tbl := List.mem_of_getElem? (i := 993) rfl
set_option maxRecDepth 100000 in
theorem lw0_in : ∀ w ∈ lw0, w ∈ lw_tbl := List.forall_mem_cons.mpr ⟨lw0_i0, List.forall_mem_cons.mpr ⟨lw0_i1, List.forall_mem_cons.mpr ⟨lw0_i2, List.forall_mem_cons.mpr ⟨lw0_i3, List.forall_mem_cons.mpr ⟨lw0_i4, List.forall_mem_cons.mpr ⟨lw0_i5, List.forall_mem_cons.mpr ⟨lw0_i6, List.forall_mem_cons.mpr ⟨lw0_i7, List.forall_mem_cons.mpr ⟨lw0_i8, List.forall_mem_cons.mpr ⟨lw0_i9, List.forall_mem_cons.mpr ⟨lw0_i10, List.forall_mem_cons.mpr ⟨lw0_i11, List.forall_mem_cons.mpr ⟨lw0_i12, List.forall_mem_cons.mpr ⟨lw0_i13, List.forall_mem_cons.mpr ⟨lw0_i14, List.forall_mem_cons.mpr ⟨lw0_i15, List.forall_mem_cons.mpr ⟨lw0_i16, List.forall_mem_cons.mpr ⟨lw0_i17, List.forall_mem_cons.mpr ⟨lw0_i18, List.forall_mem_cons.mpr ⟨lw0_i19, List.forall_mem_cons.mpr ⟨lw0_i20, List.forall_mem_cons.mpr ⟨lw0_i21, List.forall_mem_cons.mpr ⟨lw0_i22, List.forall_mem_cons.mpr ⟨lw0_i23, List.forall_mem_cons.mpr ⟨lw0_i24, List.forall_mem_cons.mpr ⟨lw0_i25, List.forall_mem_cons.mpr ⟨lw0_i26, List.forall_mem_cons.mpr ⟨lw0_i27, List.forall_mem_cons.mpr ⟨lw0_i28, List.forall_mem_cons.mpr ⟨lw0_i29, List.forall_mem_cons.mpr ⟨lw0_i30, List.forall_mem_cons.mpr ⟨lw0_i31, List.forall_mem_cons.mpr ⟨lw0_i32, List.forall_mem_cons.mpr ⟨lw0_i33, List.forall_mem_cons.mpr ⟨lw0_i34, List.forall_mem_cons.mpr ⟨lw0_i35, List.forall_mem_cons.mpr ⟨lw0_i36, List.forall_mem_cons.mpr ⟨lw0_i37, List.forall_mem_cons.mpr ⟨lw0_i38, List.forall_mem_cons.mpr ⟨lw0_i39, List.forall_mem_cons.mpr ⟨lw0_i40, List.forall_mem_cons.mpr ⟨lw0_i41, List.forall_mem_cons.mpr ⟨lw0_i42, List.forall_mem_cons.mpr ⟨lw0_i43, List.forall_mem_cons.mpr ⟨lw0_i44, List.forall_mem_cons.mpr ⟨lw0_i45, List.forall_mem_cons.mpr ⟨lw0_i46, List.forall_mem_cons.mpr ⟨lw0_i47, List.forall_mem_cons.mpr ⟨lw0_i48, List.forall_mem_cons.mpr ⟨lw0_i49, List.forall_mem_cons.mpr ⟨lw0_i50, List.forall_mem_cons.mpr ⟨lw0_i51, List.forall_mem_cons.mpr ⟨lw0_i52, List.forall_mem_cons.mpr ⟨lw0_i53, List.forall_mem_cons.mpr ⟨lw0_i54, List.forall_mem_cons.mpr ⟨lw0_i55, List.forall_mem_cons.mpr ⟨lw0_i56, List.forall_mem_cons.mpr ⟨lw0_i57, List.forall_mem_cons.mpr ⟨lw0_i58, List.forall_mem_cons.mpr ⟨lw0_i59, List.forall_mem_cons.mpr ⟨lw0_i60, List.forall_mem_cons.mpr ⟨lw0_i61, List.forall_mem_cons.mpr ⟨lw0_i62, List.forall_mem_cons.mpr ⟨lw0_i63, List.forall_mem_cons.mpr ⟨lw0_i64, List.forall_mem_cons.mpr ⟨lw0_i65, List.forall_mem_cons.mpr ⟨lw0_i66, List.forall_mem_cons.mpr ⟨lw0_i67, List.forall_mem_cons.mpr ⟨lw0_i68, List.forall_mem_cons.mpr ⟨lw0_i69, List.forall_mem_cons.mpr ⟨lw0_i70, List.forall_mem_cons.mpr ⟨lw0_i71, List.forall_mem_cons.mpr ⟨lw0_i72, List.forall_mem_cons.mpr ⟨lw0_i73, List.forall_mem_cons.mpr ⟨lw0_i74, List.forall_mem_cons.mpr ⟨lw0_i75, List.forall_mem_cons.mpr ⟨lw0_i76, List.forall_mem_cons.mpr ⟨lw0_i77, List.forall_mem_cons.mpr ⟨lw0_i78, List.forall_mem_cons.mpr ⟨lw0_i79, List.forall_mem_cons.mpr ⟨lw0_i80, List.forall_mem_cons.mpr ⟨lw0_i81, List.forall_mem_cons.mpr ⟨lw0_i82, List.forall_mem_cons.mpr ⟨lw0_i83, List.forall_mem_cons.mpr ⟨lw0_i84, List.forall_mem_cons.mpr ⟨lw0_i85, List.forall_mem_cons.mpr ⟨lw0_i86, List.forall_mem_cons.mpr ⟨lw0_i87, List.forall_mem_cons.mpr ⟨lw0_i88, List.forall_mem_cons.mpr ⟨lw0_i89, List.forall_mem_cons.mpr ⟨lw0_i90, List.forall_mem_cons.mpr ⟨lw0_i91, List.forall_mem_cons.mpr ⟨lw0_i92, List.forall_mem_cons.mpr ⟨lw0_i93, List.forall_mem_cons.mpr ⟨lw0_i94, List.forall_mem_cons.mpr ⟨lw0_i95, List.forall_mem_cons.mpr ⟨lw0_i96, List.forall_mem_cons.mpr ⟨lw0_i97, List.forall_mem_cons.mpr ⟨lw0_i98, List.forall_mem_cons.mpr ⟨lw0_i99, List.forall_mem_cons.mpr ⟨lw0_i100, List.forall_mem_cons.mpr ⟨lw0_i101, fun _ h => absurd h List.not_mem_nil⟩⟩⟩⟩⟩⟩⟩⟩⟩⟩⟩⟩⟩⟩⟩⟩⟩⟩⟩⟩⟩⟩⟩⟩⟩⟩⟩⟩⟩⟩⟩⟩⟩⟩⟩⟩⟩⟩⟩⟩⟩⟩⟩⟩⟩⟩⟩⟩⟩⟩⟩⟩⟩⟩⟩⟩⟩⟩⟩⟩⟩⟩⟩⟩⟩⟩⟩⟩⟩⟩⟩⟩⟩⟩⟩⟩⟩⟩⟩⟩⟩⟩⟩⟩⟩⟩⟩⟩⟩⟩⟩⟩⟩⟩⟩⟩⟩⟩⟩⟩⟩⟩
set_option maxRecDepth 100000 in
theorem sALL_i0 : (Jvm.Cond.stringRef "DesignSpaces" (60 : Nat) "a choice has 2 to 6 values") ∈ lw_tbl := List.mem_of_getElem? (i := 378) rfl
set_option maxRecDepth 100000 in
theorem sALL_i1 : (Jvm.Cond.stringRef "DesignSpaces" (71 : Nat) "too many choices or designs") ∈ lw_tbl := List.mem_of_getElem? (i := 418) rfl
set_option maxRecDepth 100000 in
theorem sALL_i2 : (Jvm.Cond.stringRef "DesignSpaces" (100 : Nat) "no such number, choice or value") ∈ lw_tbl := List.mem_of_getElem? (i := 473) rfl
set_option maxRecDepth 100000 in
theorem sALL_i3 : (Jvm.Cond.stringRef "DesignSpaces" (105 : Nat) "one choice twice, or no weight") ∈ lw_tbl := List.mem_of_getElem? (i := 482) rfl
set_option maxRecDepth 100000 in
theorem sALL_i4 : (Jvm.Cond.stringRef "DesignSpaces" (110 : Nat) "there are 100 terms") ∈ lw_tbl := List.mem_of_getElem? (i := 483) rfl
set_option maxRecDepth 100000 in
theorem sALL_i5 : (Jvm.Cond.stringRef "DesignSpaces" (116 : Nat) "no such choice or value") ∈ lw_tbl := List.mem_of_getElem? (i := 507) rfl
set_option maxRecDepth 100000 in
theorem sALL_i6 : (Jvm.Cond.stringRef "DesignSpaces" (118 : Nat) "one choice twice") ∈ lw_tbl := List.mem_of_getElem? (i := 508) rfl
set_option maxRecDepth 100000 in
theorem sALL_i7 : (Jvm.Cond.stringRef "DesignSpaces" (123 : Nat) "there are forty rules") ∈ lw_tbl := List.mem_of_getElem? (i := 509) rfl
set_option maxRecDepth 100000 in
theorem sALL_i8 : (Jvm.Cond.stringRef "DesignSpaces" (129 : Nat) "no such number") ∈ lw_tbl := List.mem_of_getElem? (i := 521) rfl
set_option maxRecDepth 100000 in
theorem sALL_i9 : (Jvm.Cond.stringRef "DesignSpaces" (142 : Nat) "no such design or number") ∈ lw_tbl := List.mem_of_getElem? (i := 533) rfl
set_option maxRecDepth 100000 in
theorem sALL_i10 : (Jvm.Cond.stringRef "DesignSpaces" (151 : Nat) "no such design or choice") ∈ lw_tbl := List.mem_of_getElem? (i := 543) rfl
set_option maxRecDepth 100000 in
theorem sALL_i11 : (Jvm.Cond.stringRef "DesignSpaces" (156 : Nat) "no such design") ∈ lw_tbl := List.mem_of_getElem? (i := 552) rfl
set_option maxRecDepth 100000 in
theorem sALL_i12 : (Jvm.Cond.stringRef "DesignSpaces" (161 : Nat) "no such designs") ∈ lw_tbl := List.mem_of_getElem? (i := 561) rfl
set_option maxRecDepth 100000 in
theorem sALL_i13 : (Jvm.Cond.stringRef "DesignSpaces" (163 : Nat) "a design is not legal") ∈ lw_tbl := List.mem_of_getElem? (i := 562) rfl
set_option maxRecDepth 100000 in
theorem sALL_i14 : (Jvm.Cond.stringRef "DesignSpaces" (174 : Nat) "no such undominated design") ∈ lw_tbl := List.mem_of_getElem? (i := 571) rfl
set_option maxRecDepth 100000 in
theorem sALL_i15 : (Jvm.Cond.stringRef "DesignSpaces" (186 : Nat) "no such number, design or choices") ∈ lw_tbl := List.mem_of_getElem? (i := 628) rfl
set_option maxRecDepth 100000 in
theorem sALL_i16 : (Jvm.Cond.stringRef "DesignSpaces" (196 : Nat) "no such design or near one") ∈ lw_tbl := List.mem_of_getElem? (i := 645) rfl
set_option maxRecDepth 100000 in
theorem sALL_i17 : (Jvm.Cond.stringRef "DesignSpaces" (201 : Nat) "slack below 0") ∈ lw_tbl := List.mem_of_getElem? (i := 658) rfl
set_option maxRecDepth 100000 in
theorem sALL_i18 : (Jvm.Cond.stringRef "DesignSpaces" (206 : Nat) "not legal, or not 1 to 1000 steps") ∈ lw_tbl := List.mem_of_getElem? (i := 667) rfl
set_option maxRecDepth 100000 in
theorem sALL_i19 : (Jvm.Cond.stringRef "DesignSpaces" (210 : Nat) "no choices") ∈ lw_tbl := List.mem_of_getElem? (i := 677) rfl
set_option maxRecDepth 100000 in
theorem sALL_i20 : (Jvm.Cond.stringRef "DesignSpaces" (219 : Nat) "no such choice or number") ∈ lw_tbl := List.mem_of_getElem? (i := 709) rfl
set_option maxRecDepth 100000 in
theorem sALL_i21 : (Jvm.Cond.stringRef "DesignSpaces" (225 : Nat) "not 1 to 5000 designs") ∈ lw_tbl := List.mem_of_getElem? (i := 733) rfl
set_option maxRecDepth 100000 in
theorem sALL_i22 : (Jvm.Cond.stringRef "DesignSpaces" (231 : Nat) "the sweep is at its end") ∈ lw_tbl := List.mem_of_getElem? (i := 734) rfl
set_option maxRecDepth 100000 in
theorem sALL_in : ∀ w ∈ sALL, w ∈ lw_tbl := List.forall_mem_cons.mpr ⟨sALL_i0, List.forall_mem_cons.mpr ⟨sALL_i1, List.forall_mem_cons.mpr ⟨sALL_i2, List.forall_mem_cons.mpr ⟨sALL_i3, List.forall_mem_cons.mpr ⟨sALL_i4, List.forall_mem_cons.mpr ⟨sALL_i5, List.forall_mem_cons.mpr ⟨sALL_i6, List.forall_mem_cons.mpr ⟨sALL_i7, List.forall_mem_cons.mpr ⟨sALL_i8, List.forall_mem_cons.mpr ⟨sALL_i9, List.forall_mem_cons.mpr ⟨sALL_i10, List.forall_mem_cons.mpr ⟨sALL_i11, List.forall_mem_cons.mpr ⟨sALL_i12, List.forall_mem_cons.mpr ⟨sALL_i13, List.forall_mem_cons.mpr ⟨sALL_i14, List.forall_mem_cons.mpr ⟨sALL_i15, List.forall_mem_cons.mpr ⟨sALL_i16, List.forall_mem_cons.mpr ⟨sALL_i17, List.forall_mem_cons.mpr ⟨sALL_i18, List.forall_mem_cons.mpr ⟨sALL_i19, List.forall_mem_cons.mpr ⟨sALL_i20, List.forall_mem_cons.mpr ⟨sALL_i21, List.forall_mem_cons.mpr ⟨sALL_i22, fun _ h => absurd h List.not_mem_nil⟩⟩⟩⟩⟩⟩⟩⟩⟩⟩⟩⟩⟩⟩⟩⟩⟩⟩⟩⟩⟩⟩⟩
set_option maxRecDepth 100000 in
theorem xw_0 : (.laysStatic Bundle.tN "UNASSIGNED_STACK" Bundle.steD : Cond) ∈ lw_tbl := List.mem_of_getElem? (i := 363) rfl
set_option maxRecDepth 100000 in
theorem xw_1 : (.laysStatic Bundle.tN "SUPPRESSED_SENTINEL" Bundle.listD : Cond) ∈ lw_tbl := List.mem_of_getElem? (i := 365) rfl
set_option maxRecDepth 100000 in
theorem xw_2 : (.declares (Bundle.initS "java/lang/RuntimeException") : Cond) ∈ lw_tbl := List.mem_of_getElem? (i := 340) rfl
set_option maxRecDepth 100000 in
theorem xw_3 : (.declares (Bundle.initS "java/lang/Exception") : Cond) ∈ lw_tbl := List.mem_of_getElem? (i := 342) rfl
set_option maxRecDepth 100000 in
theorem xw_4 : (.declares (Bundle.initS Bundle.tN) : Cond) ∈ lw_tbl := List.mem_of_getElem? (i := 344) rfl
set_option maxRecDepth 100000 in
theorem nw_X : Cond.methodLinkNest RX 11 ySh_init "DesignSpaces" ∈ lw_tbl := List.mem_of_getElem? (i := 55) rfl
def Gd (w : Cond) : Prop := w ∈ lw_tbl ∧ ((w.onTables && w.keeps) = true ∨ ∃ ty, w = Cond.arrayClass ty)
theorem Gd_r {w : Cond} (h : w ∈ rALL) : Gd w := ⟨rALL_in w h, rALL_good w h⟩
theorem Gd_c {w : Cond} (h : w ∈ cALL) : Gd w := ⟨cALL_in w h, cALL_good w h⟩
theorem Gd_l {w : Cond} (h : w ∈ lw0) : Gd w := ⟨lw0_in w h, lw0_good w h⟩
theorem Gd_L {w : Cond} (h : w ∈ lALL) : Gd w := (List.mem_append.mp h).elim Gd_l Gd_c
theorem gVT {idx : Nat} {C : String} {y : MethodName} {ws : List Cond} (h1 : Gd (.methodLink RL idx y)) (h2 : Gd (.instanceMethod y)) (h3 : Gd (.selects C y y)) (h4 : Gd (.initialized C)) (h5 : ∀ w ∈ ws, Gd w) : GoodIn lw_tbl (wsV RL idx C y ws) := by
  intro w hw
  unfold wsV at hw
  simp only [List.cons_append, List.nil_append, List.mem_cons] at hw
  rcases hw with rfl | rfl | rfl | rfl | hw
  · exact h1
  · exact h2
  · exact h3
  · exact h4
  · exact h5 w hw
theorem gST {idx : Nat} {y : MethodName} {ws : List Cond} (h1 : Gd (.methodLink RL idx y)) (h2 : Gd (.static y)) (h3 : Gd (.initialized y.cls)) (h5 : ∀ w ∈ ws, Gd w) : GoodIn lw_tbl (va_wsS RL idx y ws) := by
  intro w hw
  unfold va_wsS at hw
  simp only [List.cons_append, List.nil_append, List.mem_cons] at hw
  rcases hw with rfl | rfl | rfl | hw
  · exact h1
  · exact h2
  · exact h3
  · exact h5 w hw
theorem Gd_cons {cw : Cond} {ws : List Cond} (h1 : Gd cw) (h2 : ∀ w ∈ ws, Gd w) : ∀ w ∈ cw :: ws, Gd w := fun w hw => (List.mem_cons.mp hw).elim (fun e => by rw [e]; exact h1) (h2 w)
